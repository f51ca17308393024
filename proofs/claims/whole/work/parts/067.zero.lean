/-! ### a zero mark -/
theorem down_toInt {x y : Int32} (hy : 0 < y.toInt) (hx : -1073741824 ≤ x.toInt) (hx2 : x.toInt ≤ 1073741824) : (downV x y).toInt = x.toInt / y.toInt := by
  have hq : (x / y).toInt = x.toInt.tdiv y.toInt := Jvm.Kit.i32_div (by omega)
  have hd := Int.tdiv_eq_ediv (a := x.toInt) (b := y.toInt)
  have hsg : Int.sign y.toInt = 1 := Int.sign_eq_one_of_pos hy
  have hab : (x.toInt.tdiv y.toInt).natAbs ≤ x.toInt.natAbs := by rw [Int.natAbs_tdiv]; exact Nat.div_le_self _ _
  unfold downV
  by_cases h0 : 0 ≤ x
  · rw [if_pos h0, hq, hd, if_pos (Or.inl (i32_nn.mp h0))]
    omega
  · rw [if_neg h0]
    have h0' : ¬ 0 ≤ x.toInt := fun q => h0 (i32_nn.mpr q)
    have hm := Int.mul_tdiv_add_tmod x.toInt y.toInt
    have hb := tmod_bounds (a := x.toInt) (M := y.toInt) hy
    have hn : x.toInt.tmod y.toInt ≤ 0 := by
      have := Int.tmod_nonneg (a := -x.toInt) y.toInt (by omega)
      rw [Int.neg_tmod] at this
      omega
    have hyl := Int32.toInt_lt y
    have hmul : (x / y * y).toInt = x.toInt.tdiv y.toInt * y.toInt := by
      rw [Jvm.Kit.i32_mul (by rw [hq, Int.mul_comm]; omega) (by rw [hq, Int.mul_comm]; omega), hq]
    by_cases hz : x / y * y = x
    · rw [if_pos hz, hq, hd, if_pos (Or.inr ⟨x.toInt.tdiv y.toInt, by rw [Int.mul_comm, ← hmul, hz]⟩)]
      omega
    · rw [if_neg hz]
      have hnd : ¬ y.toInt ∣ x.toInt := by
        intro hdv
        apply hz
        apply Int32.toInt_inj.mp
        rw [hmul]
        exact Int.tdiv_mul_cancel hdv
      rw [if_neg (by rintro (z | z) <;> contradiction), hsg] at hd
      rw [Jvm.Kit.i32_sub (by rw [hq, show (1 : Int32).toInt = 1 by decide]; omega) (by rw [hq, show (1 : Int32).toInt = 1 by decide]; omega), hq, show (1 : Int32).toInt = 1 by decide]
      omega
/-- the mark's place: H the high, L the low, O the origin -/
theorem mark_int (H L O T : Int) (hT : 0 < T) : (H - (H - O) % T = O + (H - O) / T * T) ∧ (L ≤ O + (H - O) / T * T ↔ -((O - L) / T) ≤ (H - O) / T) ∧ (L ≤ O + (H - O) / T * T - T ↔ -((O - L) / T) ≤ (H - O) / T - 1) := by
  have h1 := Int.mul_ediv_add_emod (H - O) T
  have h2 : ∀ q : Int, L ≤ O + q * T ↔ -((O - L) / T) ≤ q := by
    intro q
    have h3 := Int.le_ediv_iff_mul_le (a := -q) (b := O - L) hT
    have h4 : -q * T = -(q * T) := Int.neg_mul q T
    rw [h4] at h3
    omega
  refine ⟨by rw [Int.mul_comm] at h1; omega, h2 _, ?_⟩
  have h5 := h2 ((H - O) / T - 1)
  rw [Int.sub_mul, Int.one_mul] at h5
  omega
def firstG (g : Nat → Int32) : Int32 := -downV (g 14 - g 7) (g 1)
def lastG (g : Nat → Int32) : Int32 := downV (g 8 - g 14) (g 1)
def z0G (g : Nat → Int32) : Nat → Int32 := upd g 12 (g 12 + 1)
def zAG (g : Nat → Int32) : Nat → Int32 := if g 13 = 0 then (if g 7 = g 8 then upd (upd (z0G g) 13 1) 14 (g 6) else z0G g) else if firstG g = lastG g then upd (upd (upd (z0G g) 6 (g 14 + firstG g * g 1)) 7 (g 14 + firstG g * g 1)) 8 (g 14 + firstG g * g 1) else if firstG g ≤ lastG g then z0G g else upd (z0G g) 11 (g 11 + 1)
theorem G_zA (r : Tb) (b : Nat) : G (zA r b) b = zAG (G r b) := by
  have e0 : G (z0 r b) b = z0G (G r b) := by unfold z0; rw [G_up]; rfl
  unfold zA zAG
  by_cases h1 : r 1 (b + 13) = 0
  · rw [if_pos h1, if_pos (show G r b 13 = 0 from h1)]
    by_cases h2 : r 1 (b + 7) = r 1 (b + 8)
    · rw [if_pos h2, if_pos (show G r b 7 = G r b 8 from h2), G_up, G_up, e0]
      rfl
    · rw [if_neg h2, if_neg (show ¬ G r b 7 = G r b 8 from h2), e0]
  · rw [if_neg h1, if_neg (show ¬ G r b 13 = 0 from h1)]
    by_cases h2 : firstM r b = lastM r b
    · rw [if_pos h2, if_pos (show firstG (G r b) = lastG (G r b) from h2), G_up, G_up, G_up, e0]
      rfl
    · rw [if_neg h2, if_neg (show ¬ firstG (G r b) = lastG (G r b) from h2)]
      by_cases h3 : firstM r b ≤ lastM r b
      · rw [if_pos h3, if_pos (show firstG (G r b) ≤ lastG (G r b) from h3), e0]
      · rw [if_neg h3, if_neg (show ¬ firstG (G r b) ≤ lastG (G r b) from h3), G_up, e0]
        rfl
theorem zAG_out {g : Nat → Int32} {j : Nat} (h : j < 6 ∨ j = 9 ∨ j = 10 ∨ 14 < j) : zAG g j = g j := by
  unfold zAG z0G
  by_cases h1 : g 13 = 0
  · rw [if_pos h1]
    by_cases h2 : g 7 = g 8
    · rw [if_pos h2, pk_un (by omega), pk_un (by omega), pk_un (by omega)]
    · rw [if_neg h2, pk_un (by omega)]
  · rw [if_neg h1]
    by_cases h2 : firstG g = lastG g
    · rw [if_pos h2, pk_un (by omega), pk_un (by omega), pk_un (by omega), pk_un (by omega)]
    · rw [if_neg h2]
      by_cases h3 : firstG g ≤ lastG g
      · rw [if_pos h3, pk_un (by omega)]
      · rw [if_neg h3, pk_un (by omega), pk_un (by omega)]
theorem zAG_12 {g : Nat → Int32} : zAG g 12 = g 12 + 1 := by
  unfold zAG z0G
  by_cases h1 : g 13 = 0
  · rw [if_pos h1]
    by_cases h2 : g 7 = g 8
    · rw [if_pos h2, pk_un (by omega), pk_un (by omega), pk_us]
    · rw [if_neg h2, pk_us]
  · rw [if_neg h1]
    by_cases h2 : firstG g = lastG g
    · rw [if_pos h2, pk_un (by omega), pk_un (by omega), pk_un (by omega), pk_us]
    · rw [if_neg h2]
      by_cases h3 : firstG g ≤ lastG g
      · rw [if_pos h3, pk_us]
      · rw [if_neg h3, pk_un (by omega), pk_us]
theorem heedV_row (x : Tb) {k : Nat} (h : ¬ k = 0) : heedV x k = x k := by
  unfold heedV mendV
  by_cases h1 : x 0 10 = 0
  · rw [if_pos h1]
    by_cases h2 : x 0 8 = x 0 9
    · rw [if_pos h2, up2_row h, up2_row h]
    · rw [if_neg h2]
  · rw [if_neg h1]
    by_cases h2 : x 0 8 ≤ markV x
    · rw [if_pos h2]
      by_cases h3 : x 0 8 ≤ markV x - x 0 5
      · rw [if_pos h3]
      · rw [if_neg h3, up2_row h, up2_row h, up2_row h]
    · rw [if_neg h2, up2_row h]
theorem heedV_out (x : Tb) {k : Nat} (h : k < 7 ∨ k = 12 ∨ 13 < k) : heedV x 0 k = x 0 k := by
  unfold heedV mendV
  by_cases h1 : x 0 10 = 0
  · rw [if_pos h1]
    by_cases h2 : x 0 8 = x 0 9
    · rw [if_pos h2, up2_ne (by omega), up2_ne (by omega)]
    · rw [if_neg h2]
  · rw [if_neg h1]
    by_cases h2 : x 0 8 ≤ markV x
    · rw [if_pos h2]
      by_cases h3 : x 0 8 ≤ markV x - x 0 5
      · rw [if_pos h3]
      · rw [if_neg h3, up2_ne (by omega), up2_ne (by omega), up2_ne (by omega)]
    · rw [if_neg h2, up2_ne (by omega)]
/-- the mark heeded, in class and reference -/
theorem heed_sim {x : Tb} {g : Nat → Int32} {t T : Nat} (ht : t ≤ 1000000) (hT4 : 4 ≤ T) (hT : T ≤ 64) (eT : g 1 = nI T) (e5 : x 0 5 = g 1) (e7 : x 0 7 = g 6) (e8 : x 0 8 = g 7) (e9 : x 0 9 = g 8) (e10 : x 0 10 = g 13) (e11 : x 0 11 = g 14) (e13 : x 0 13 = g 11) (hh : g 13 = 0 ∨ g 13 = 1) (b6 : Bnd (g 6) t) (b7 : Bnd (g 7) t) (b8 : Bnd (g 8) t) (b14 : Bnd (g 14) t) :
    (heedV x 0 7 = zAG g 6 ∧ heedV x 0 8 = zAG g 7 ∧ heedV x 0 9 = zAG g 8 ∧ heedV x 0 10 = zAG g 13 ∧ heedV x 0 11 = zAG g 14 ∧ heedV x 0 13 = zAG g 11) ∧ (zAG g 13 = 0 ∨ zAG g 13 = 1) ∧ Bnd (zAG g 6) t ∧ Bnd (zAG g 7) t ∧ Bnd (zAG g 8) t ∧ Bnd (zAG g 14) t := by
  have hTi : (g 1).toInt = (T : Int) := by rw [eT, nI_toInt (by omega)]
  unfold Bnd at b6 b7 b8 b14
  have s1 : (g 14 - g 7).toInt = (g 14).toInt - (g 7).toInt := Jvm.Kit.i32_sub (by omega) (by omega)
  have s2 : (g 8 - g 14).toInt = (g 8).toInt - (g 14).toInt := Jvm.Kit.i32_sub (by omega) (by omega)
  have dF : (downV (g 14 - g 7) (g 1)).toInt = ((g 14).toInt - (g 7).toInt) / (T : Int) := by rw [down_toInt (by rw [hTi]; omega) (by omega) (by omega), s1, hTi]
  have dL : (lastG g).toInt = ((g 8).toInt - (g 14).toInt) / (T : Int) := by unfold lastG; rw [down_toInt (by rw [hTi]; omega) (by omega) (by omega), s2, hTi]
  have bF : -4000000 ≤ ((g 14).toInt - (g 7).toInt) / (T : Int) ∧ ((g 14).toInt - (g 7).toInt) / (T : Int) ≤ 4000000 := by
    constructor
    · exact (Int.le_ediv_iff_mul_le (by omega)).mpr (by omega)
    · exact Int.le_of_lt_add_one ((Int.ediv_lt_iff_lt_mul (by omega)).mpr (by omega))
  have dF2 : (firstG g).toInt = -(((g 14).toInt - (g 7).toInt) / (T : Int)) := by unfold firstG; rw [Jvm.Kit.i32_neg (by rw [dF]; omega), dF]
  have hfm : (fm (g 8 - g 14) (g 1)).toInt = ((g 8).toInt - (g 14).toInt) % (T : Int) := by rw [fm_toInt (by rw [hTi]; omega), s2, hTi]
  have hmb := Int.emod_lt_of_pos ((g 8).toInt - (g 14).toInt) (show (0 : Int) < (T : Int) by omega)
  have hmb0 := Int.emod_nonneg ((g 8).toInt - (g 14).toInt) (show (T : Int) ≠ 0 by omega)
  have hmk : (markV x).toInt = (g 8).toInt - ((g 8).toInt - (g 14).toInt) % (T : Int) := by unfold markV; rw [e9, e11, e5, Jvm.Kit.i32_sub (by rw [hfm]; omega) (by rw [hfm]; omega), hfm]
  obtain ⟨m1, m2, m3⟩ := mark_int (g 8).toInt (g 7).toInt (g 14).toInt (T : Int) (by omega)
  rw [m1] at hmk
  have bm : (g 14).toInt + ((g 8).toInt - (g 14).toInt) / (T : Int) * (T : Int) ≤ (g 8).toInt := by omega
  have bm0 : (g 8).toInt - 64 ≤ (g 14).toInt + ((g 8).toInt - (g 14).toInt) / (T : Int) * (T : Int) := by omega
  unfold heedV
  rw [e10]
  rcases hh with hz | hz
  · rw [if_pos hz, e8, e9]
    unfold zAG
    rw [if_pos hz]
    by_cases h2 : g 7 = g 8
    · rw [if_pos h2, if_pos h2]
      unfold z0G Bnd
      refine ⟨⟨?_, ?_, ?_, ?_, ?_, ?_⟩, ?_, ?_, ?_, ?_, ?_⟩
      · rw [up2_ne (by omega), up2_ne (by omega), pk_un (by omega), pk_un (by omega), pk_un (by omega), e7]
      · rw [up2_ne (by omega), up2_ne (by omega), pk_un (by omega), pk_un (by omega), pk_un (by omega), e8]
      · rw [up2_ne (by omega), up2_ne (by omega), pk_un (by omega), pk_un (by omega), pk_un (by omega), e9]
      · rw [up2_ne (by omega), up2_eq, pk_un (by omega), pk_us]
      · rw [up2_eq, pk_us, e7]
      · rw [up2_ne (by omega), up2_ne (by omega), pk_un (by omega), pk_un (by omega), pk_un (by omega), e13]
      · rw [pk_un (by omega), pk_us]; exact Or.inr rfl
      · rw [pk_un (by omega), pk_un (by omega), pk_un (by omega)]; exact b6
      · rw [pk_un (by omega), pk_un (by omega), pk_un (by omega)]; exact b7
      · rw [pk_un (by omega), pk_un (by omega), pk_un (by omega)]; exact b8
      · rw [pk_us]; exact b6
    · rw [if_neg h2, if_neg h2]
      unfold z0G Bnd
      rw [pk_un (by omega), pk_un (by omega), pk_un (by omega), pk_un (by omega), pk_un (by omega), pk_un (by omega)]
      exact ⟨⟨e7, e8, e9, e10, e11, e13⟩, Or.inl hz, b6, b7, b8, b14⟩
  · have hz0 : ¬ g 13 = 0 := by rw [hz]; decide
    rw [if_neg hz0]
    unfold mendV zAG
    rw [if_neg hz0, e8, e5]
    have c1 : g 7 ≤ markV x ↔ firstG g ≤ lastG g := by rw [Int32.le_iff_toInt_le, Int32.le_iff_toInt_le, hmk, dF2, dL]; exact m2
    have hsub : (markV x - g 1).toInt = (markV x).toInt - (T : Int) := by rw [Jvm.Kit.i32_sub (by rw [hmk, hTi]; omega) (by rw [hmk, hTi]; omega), hTi]
    have c2 : g 7 ≤ markV x - g 1 ↔ (firstG g).toInt ≤ (lastG g).toInt - 1 := by rw [Int32.le_iff_toInt_le, hsub, hmk, dF2, dL]; exact m3
    by_cases h1 : firstG g = lastG g
    · have hle : firstG g ≤ lastG g := by rw [h1]; exact Int32.le_refl _
      have hmk2 : markV x = g 14 + firstG g * g 1 := by
        apply Int32.toInt_inj.mp
        have e1 : (firstG g * g 1).toInt = ((g 8).toInt - (g 14).toInt) / (T : Int) * (T : Int) := by rw [h1, Jvm.Kit.i32_mul (by rw [dL, hTi]; omega) (by rw [dL, hTi]; omega), dL, hTi]
        rw [hmk, Jvm.Kit.i32_add (by rw [e1]; omega) (by rw [e1]; omega), e1]
      have hL : (g 7).toInt ≤ (markV x).toInt := Int32.le_iff_toInt_le.mp (c1.mpr hle)
      rw [if_pos (c1.mpr hle), if_neg (fun q => by have := c2.mp q; rw [h1] at this; omega), if_pos h1, ← hmk2]
      have bmk : -(2 * (t : Int)) ≤ (markV x).toInt ∧ (markV x).toInt ≤ 2 * (t : Int) := by rw [hmk] at hL ⊢; omega
      unfold z0G Bnd
      refine ⟨⟨?_, ?_, ?_, ?_, ?_, ?_⟩, ?_, ?_, ?_, ?_, ?_⟩
      · rw [up2_ne (by omega), up2_ne (by omega), up2_eq, pk_un (by omega), pk_un (by omega), pk_us]
      · rw [up2_ne (by omega), up2_eq, pk_un (by omega), pk_us]
      · rw [up2_eq, pk_us]
      · rw [up2_ne (by omega), up2_ne (by omega), up2_ne (by omega), pk_un (by omega), pk_un (by omega), pk_un (by omega), pk_un (by omega), e10]
      · rw [up2_ne (by omega), up2_ne (by omega), up2_ne (by omega), pk_un (by omega), pk_un (by omega), pk_un (by omega), pk_un (by omega), e11]
      · rw [up2_ne (by omega), up2_ne (by omega), up2_ne (by omega), pk_un (by omega), pk_un (by omega), pk_un (by omega), pk_un (by omega), e13]
      · rw [pk_un (by omega), pk_un (by omega), pk_un (by omega), pk_un (by omega)]; exact Or.inr hz
      · rw [pk_un (by omega), pk_un (by omega), pk_us]; exact bmk
      · rw [pk_un (by omega), pk_us]; exact bmk
      · rw [pk_us]; exact bmk
      · rw [pk_un (by omega), pk_un (by omega), pk_un (by omega), pk_un (by omega)]; exact b14
    · rw [if_neg h1]
      have hne : (firstG g).toInt ≠ (lastG g).toInt := fun q => h1 (Int32.toInt_inj.mp q)
      by_cases h2 : firstG g ≤ lastG g
      · have h2' := Int32.le_iff_toInt_le.mp h2
        rw [if_pos h2, if_pos (c1.mpr h2), if_pos (c2.mpr (by omega))]
        unfold z0G Bnd
        rw [pk_un (by omega), pk_un (by omega), pk_un (by omega), pk_un (by omega), pk_un (by omega), pk_un (by omega)]
        exact ⟨⟨e7, e8, e9, e10, e11, e13⟩, Or.inr hz, b6, b7, b8, b14⟩
      · rw [if_neg h2, if_neg (fun q => h2 (c1.mp q))]
        unfold z0G Bnd
        refine ⟨⟨?_, ?_, ?_, ?_, ?_, ?_⟩, ?_, ?_, ?_, ?_, ?_⟩
        · rw [up2_ne (by omega), pk_un (by omega), pk_un (by omega), e7]
        · rw [up2_ne (by omega), pk_un (by omega), pk_un (by omega), e8]
        · rw [up2_ne (by omega), pk_un (by omega), pk_un (by omega), e9]
        · rw [up2_ne (by omega), pk_un (by omega), pk_un (by omega), e10]
        · rw [up2_ne (by omega), pk_un (by omega), pk_un (by omega), e11]
        · rw [up2_eq, pk_us, e13]
        · rw [pk_un (by omega), pk_un (by omega)]; exact Or.inr hz
        · rw [pk_un (by omega), pk_un (by omega)]; exact b6
        · rw [pk_un (by omega), pk_un (by omega)]; exact b7
        · rw [pk_un (by omega), pk_un (by omega)]; exact b8
        · rw [pk_un (by omega), pk_un (by omega)]; exact b14
