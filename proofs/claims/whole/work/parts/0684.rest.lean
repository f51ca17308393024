/-! ### the tape -/
theorem shift_eq (v : Int32) (s : Int32) (k : Nat) (hk : k = 0 ∨ k = 8 ∨ k = 16 ∨ k = 24) (h1 : ((s.toUInt32 &&& Int32.toUInt32 31).toBitVec % 32).toNat = k) (h2 : ((s &&& 31).toBitVec.smod 32).toNat = k) : (v.toUInt32 >>> (s.toUInt32 &&& Int32.toUInt32 31)).toInt32 &&& 255 = v >>> (s &&& 31) &&& 255 := by
  rw [pk_and _ 8 (by decide), pk_and _ 8 (by decide), pk_ushr v s k h1]
  have h3 := pk_shr v (s &&& 31) k h2
  have hv := v.toBitVec.isLt
  have e1 : v.toInt = if 2 * v.toBitVec.toNat < 4294967296 then (v.toBitVec.toNat : Int) else (v.toBitVec.toNat : Int) - 4294967296 := by
    have : v.toInt = v.toBitVec.toInt := rfl
    rw [this, BitVec.toInt_eq_toNat_cond]
    rfl
  have e2 : (v >>> (s &&& 31)).toInt = if 2 * (v >>> (s &&& 31)).toBitVec.toNat < 4294967296 then ((v >>> (s &&& 31)).toBitVec.toNat : Int) else ((v >>> (s &&& 31)).toBitVec.toNat : Int) - 4294967296 := by
    have : (v >>> (s &&& 31)).toInt = (v >>> (s &&& 31)).toBitVec.toInt := rfl
    rw [this, BitVec.toInt_eq_toNat_cond]
    rfl
  have h4 := (v >>> (s &&& 31)).toBitVec.isLt
  rw [e2, e1, Int.shiftRight_eq_div_pow] at h3
  congr 1
  rcases hk with rfl | rfl | rfl | rfl <;> (split at h3 <;> split at h3 <;> omega)
theorem byte_new {tp : Nat → Int32} {w : Nat} {v : Int32} {k : Nat} (h : k / 4 = w) : byteN (upd tp w v) k = (v.toUInt32 >>> ((8 * (3 - nI (k % 4)) : Int32).toUInt32 &&& Int32.toUInt32 31)).toInt32 &&& 255 := by
  unfold byteN
  rw [h, pk_us]
theorem byte_old {tp : Nat → Int32} {w : Nat} {v : Int32} {k : Nat} (h : k / 4 ≠ w) : byteN (upd tp w v) k = byteN tp k := by
  unfold byteN
  rw [pk_un h]
def TapeR (w : Nat) (tp : Nat → Int32) (r : Tb) : Prop := r 0 8 = nI (4 * w) ∧ ∀ k, k < 4 * w → r 5 k = byteN tp k
def Ft (r r' : Tb) : Prop := (∀ k, k ≠ 0 → k ≠ 5 → r' k = r k) ∧ ∀ k, k ≠ 8 → r' 0 k = r 0 k
theorem four_row5 (r : Tb) (n : Nat) (v : Int32) : fourM r n v 5 = upd (upd (upd (upd (r 5) n (v >>> ((24 : Int32) &&& 31) &&& 255)) (n + 1) (v >>> ((16 : Int32) &&& 31) &&& 255)) (n + 1 + 1) (v >>> ((8 : Int32) &&& 31) &&& 255)) (n + 1 + 1 + 1) (v >>> ((0 : Int32) &&& 31) &&& 255) := rfl
theorem put_core {w : Nat} {tp : Nat → Int32} {r : Tb} (hw : w < 500) (h : TapeR w tp r) (v : Int32) : putW (nI w) = nI (w + 1) ∧ TapeR (w + 1) (putT (nI w) tp v) (fourM r (4 * w) v) ∧ Ft r (fourM r (4 * w) v) := by
  have c5 : ¬ 500 ≤ nI w := fun q => by have := (nI_leI (a := 500) (by decide) (by omega)).mp q; omega
  have pT : putT (nI w) tp v = upd tp w v := by unfold putT; rw [if_neg c5, nI_clamp (by omega)]
  refine ⟨by unfold putW; rw [if_neg c5]; exact nI_1 w, ⟨by rw [four_8 h.1]; rfl, fun k hk => ?_⟩, ?_, ?_⟩
  · rw [pT, four_row5]
    by_cases hk0 : k < 4 * w
    · rw [pk_un (by omega), pk_un (by omega), pk_un (by omega), pk_un (by omega), byte_old (by omega)]
      exact h.2 k hk0
    · have hq : k = 4 * w ∨ k = 4 * w + 1 ∨ k = 4 * w + 1 + 1 ∨ k = 4 * w + 1 + 1 + 1 := by omega
      rw [byte_new (by omega)]
      rcases hq with hq | hq | hq | hq
      · rw [show k % 4 = 0 by omega, hq, pk_un (by omega), pk_un (by omega), pk_un (by omega), pk_us]
        exact (shift_eq v (8 * (3 - nI 0)) 24 (by omega) (by decide) (by decide)).symm
      · rw [show k % 4 = 1 by omega, hq, pk_un (by omega), pk_un (by omega), pk_us]
        exact (shift_eq v (8 * (3 - nI 1)) 16 (by omega) (by decide) (by decide)).symm
      · rw [show k % 4 = 2 by omega, hq, pk_un (by omega), pk_us]
        exact (shift_eq v (8 * (3 - nI 2)) 8 (by omega) (by decide) (by decide)).symm
      · rw [show k % 4 = 3 by omega, hq, pk_us]
        exact (shift_eq v (8 * (3 - nI 3)) 0 (by omega) (by decide) (by decide)).symm
  · intro k k0 k5
    unfold fourM
    rw [up2_row k0, up2_row k5, up2_row k0, up2_row k5, up2_row k0, up2_row k5, up2_row k0, up2_row k5]
  · intro k k8
    unfold fourM
    rw [up2_ne k8, up2_row (by decide), up2_ne k8, up2_row (by decide), up2_ne k8, up2_row (by decide), up2_ne k8, up2_row (by decide)]
theorem Ft.trans {a b c : Tb} (h1 : Ft a b) (h2 : Ft b c) : Ft a c := ⟨fun k k0 k5 => (h2.1 k k0 k5).trans (h1.1 k k0 k5), fun k k8 => (h2.2 k k8).trans (h1.2 k k8)⟩
theorem feed_core {w : Nat} {tp : Nat → Int32} {r : Tb} (hw : w ≤ 500) (h : TapeR w tp r) (a1 a2 a3 a4 a5 : Int32) : (if nI w ≤ 500 - 5 then feedW (nI w) * 4 else -1) = feedMV r (4 * w) ∧ (∃ w', w' ≤ 500 ∧ feedW (nI w) = nI w' ∧ TapeR w' (feedT (nI w) tp a1 a2 a3 a4 a5) (feedM r (4 * w) a1 a2 a3 a4 a5)) ∧ Ft r (feedM r (4 * w) a1 a2 a3 a4 a5) := by
  have c1 : nI w ≤ 500 - 5 ↔ w ≤ 495 := by rw [show (500 - 5 : Int32) = nI 495 by decide]; exact nI_leI (by omega) (by decide)
  have c2 : r 0 8 + 20 ≤ 2000 ↔ w ≤ 495 := by
    rw [h.1, show nI (4 * w) + 20 = nI (4 * w + 20) from nI_add (4 * w) 20, show (2000 : Int32) = nI 2000 from rfl, nI_leI (by omega) (by decide)]
    omega
  by_cases q : w ≤ 495
  · obtain ⟨p1, t1, f1⟩ := put_core (by omega) h a1
    obtain ⟨p2, t2, f2⟩ := put_core (by omega) t1 a2
    obtain ⟨p3, t3, f3⟩ := put_core (by omega) t2 a3
    obtain ⟨p4, t4, f4⟩ := put_core (by omega) t3 a4
    obtain ⟨p5, t5, f5⟩ := put_core (by omega) t4 a5
    have eW : feedW (nI w) = nI (w + 1 + 1 + 1 + 1 + 1) := by unfold feedW; rw [if_pos (c1.mpr q), p1, p2, p3, p4, p5]
    have eT : feedT (nI w) tp a1 a2 a3 a4 a5 = putT (nI (w + 1 + 1 + 1 + 1)) (putT (nI (w + 1 + 1 + 1)) (putT (nI (w + 1 + 1)) (putT (nI (w + 1)) (putT (nI w) tp a1) a2) a3) a4) a5 := by unfold feedT; rw [if_pos (c1.mpr q), p1, p2, p3, p4]
    have eM : feedM r (4 * w) a1 a2 a3 a4 a5 = fourM (fourM (fourM (fourM (fourM r (4 * w) a1) (4 * (w + 1)) a2) (4 * (w + 1 + 1)) a3) (4 * (w + 1 + 1 + 1)) a4) (4 * (w + 1 + 1 + 1 + 1)) a5 := by unfold feedM fiveM; rw [if_pos (c2.mpr q)]; rfl
    refine ⟨?_, ⟨w + 1 + 1 + 1 + 1 + 1, by omega, eW, ?_⟩, ?_⟩
    · unfold feedMV
      rw [if_pos (c1.mpr q), if_pos (c2.mpr q), eW, show (4 : Int32) = nI 4 from rfl, pk_mul]
      congr 1
      omega
    · rw [eT, eM]; exact t5
    · rw [eM]; exact (((f1.trans f2).trans f3).trans f4).trans f5
  · have d1 : ¬ nI w ≤ 500 - 5 := fun z => q (c1.mp z)
    have d2 : ¬ r 0 8 + 20 ≤ 2000 := fun z => q (c2.mp z)
    refine ⟨by unfold feedMV; rw [if_neg d1, if_neg d2], ⟨w, hw, by unfold feedW; rw [if_neg d1], ?_⟩, ?_⟩
    · unfold feedT feedM
      rw [if_neg d1, if_neg d2]
      exact h
    · unfold feedM
      rw [if_neg d2]
      exact ⟨fun _ _ _ => rfl, fun _ _ => rfl⟩
/-! ### begun anew -/
theorem anew_sim {x r : Tb} {b t ho T : Nat} (ht : t ≤ 1000000) (h1 : 1 ≤ ho) (h16 : ho ≤ 16) (hT4 : 4 ≤ T) (hT : T ≤ 64) (e4 : x 0 4 = nI ho) (e5 : x 0 5 = nI T) : SR (anewV x (nI t)) (G (anewM r b (nI ho) (nI T)) b) t := by
  have g0 : G (anewM r b (nI ho) (nI T)) b 0 = nI ho := by
    show up2 (up2 (up1 r 1 (clearN r b 1510)) 1 b (nI ho)) 1 (b + 1) (nI T) 1 (b + 0) = _
    rw [up2_ne (by omega)]
    exact up2_eq
  have g1 : G (anewM r b (nI ho) (nI T)) b 1 = nI T := by
    show up2 (up2 (up1 r 1 (clearN r b 1510)) 1 b (nI ho)) 1 (b + 1) (nI T) 1 (b + 1) = _
    exact up2_eq
  have gj : ∀ j, 2 ≤ j → j < 1510 → G (anewM r b (nI ho) (nI T)) b j = 0 := fun j h2 h3 => by
    show up2 (up2 (up1 r 1 (clearN r b 1510)) 1 b (nI ho)) 1 (b + 1) (nI T) 1 (b + j) = _
    rw [up2_ne (by omega), up2_ne (by omega), up1_eq]
    unfold clearN
    rw [if_pos (by omega)]
  have b0 : Bnd 0 t := by unfold Bnd; rw [show (0 : Int32).toInt = 0 by decide]; omega
  refine ⟨ho, T, 0, 0, 0, 0, 0, Nat.le_refl _, ⟨?_, ?_, ?_, ?_, ?_, ?_, ?_, ?_, ?_, ?_, ?_, ?_, ?_⟩, ⟨⟨h1, h16, g0⟩, ⟨hT4, hT, g1⟩, ⟨by decide, gj 2 (by omega) (by omega)⟩, Or.inl (gj 13 (by omega) (by omega)), ?_, ?_, ?_, ?_⟩, ⟨gj 9 (by omega) (by omega), fun k _ hk => by omega⟩, ⟨gj 16 (by omega) (by omega), Nat.zero_le _, rfl, Nat.le_refl _, fun _ => rfl, fun j hj => by omega⟩, Or.inl ⟨rfl, Or.inl rfl⟩, ⟨gj 15 (by omega) (by omega), Nat.zero_le _, rfl, fun d _ hd => ?_⟩, fun k hk => ?_, fun i hi => ?_, fun i j _ hj => by omega⟩
  · rw [g0]; exact e4
  · rw [g1]; exact e5
  · rw [gj 2 (by omega) (by omega)]; rfl
  · rw [gj 6 (by omega) (by omega)]; rfl
  · rw [gj 7 (by omega) (by omega)]; rfl
  · rw [gj 8 (by omega) (by omega)]; rfl
  · rw [gj 9 (by omega) (by omega)]; rfl
  · rw [gj 10 (by omega) (by omega)]; rfl
  · rw [gj 11 (by omega) (by omega)]; rfl
  · rw [gj 12 (by omega) (by omega)]; rfl
  · rw [gj 13 (by omega) (by omega)]; rfl
  · rw [gj 14 (by omega) (by omega)]; rfl
  · rw [gj 17 (by omega) (by omega)]; rfl
  · rw [gj 6 (by omega) (by omega)]; exact b0
  · rw [gj 7 (by omega) (by omega)]; exact b0
  · rw [gj 8 (by omega) (by omega)]; exact b0
  · rw [gj 14 (by omega) (by omega)]; exact b0
  · have hd0 : d = 0 := by omega
    subst hd0
    have pN : pathN (nI t) = (t - 0) % 501 := by
      unfold pathN
      rw [nI_toInt (by omega)]
      omega
    rw [if_pos rfl]
    show upd (anewR x (nI t) 2) (pathN (nI t)) (anewR x (nI t) 0 7) ((t - 0) % 501) = 0
    rw [pN, pk_us]
    rfl
  · rw [gj _ (by omega) (by omega)]
    show fillV 64 0 (x 8) k = 0
    unfold fillV
    rw [if_pos hk]
  · rw [gj _ (by omega) (by omega)]
    show fillV 3 0 (x 1) i = 0
    unfold fillV
    rw [if_pos hi]
theorem anewM_row {r : Tb} {b k : Nat} {ho tu : Int32} (h : k ≠ 1) : anewM r b ho tu k = r k := by
  unfold anewM
  rw [up2_row h, up2_row h, up1_row h]
theorem anewM_far {r : Tb} {b j : Nat} {ho tu : Int32} (h : j < b ∨ b + 1510 ≤ j) : anewM r b ho tu 1 j = r 1 j := by
  unfold anewM
  rw [up2_ne (by omega), up2_ne (by omega), up1_eq]
  unfold clearN
  rw [if_neg (by omega)]
theorem SR.ht {c r : Tb} {b t : Nat} (h : SR c (G r b) t) : ∃ ho T : Nat, 1 ≤ ho ∧ ho ≤ 16 ∧ 4 ≤ T ∧ T ≤ 64 ∧ r 1 (b + 0) = nI ho ∧ r 1 (b + 1) = nI T ∧ c 0 4 = nI ho ∧ c 0 5 = nI T := by
  obtain ⟨ho, T, _, _, _, _, _, _, hSc, hRg, _⟩ := h
  obtain ⟨⟨a1, a2, a3⟩, ⟨a4, a5, a6⟩, _⟩ := hRg
  exact ⟨ho, T, a1, a2, a4, a5, a3, a6, hSc.1.trans a3, hSc.2.1.trans a6⟩
/-- one reader told anew: the class's table c', the reference's r' -/
def Told (c c' : Tb) (r r' : Tb) (b t : Nat) : Prop := SR c' (G r' b) t ∧ (∀ k, k ≠ 1 → r' k = r k) ∧ ∀ j, (j < b ∨ b + 1510 ≤ j) → r' 1 j = r 1 j
theorem hold_told {c r : Tb} {b t : Nat} (ht : t ≤ 1000000) (h : SR c (G r b) t) (tk : Int32) : Told c (holdR c tk (nI t)) r (holdM r b tk) b t := by
  obtain ⟨ho, T, a1, a2, a3, a4, a5, a6, a7, a8⟩ := h.ht
  unfold holdR holdM
  by_cases h1 : tk < 1
  · rw [if_pos h1, if_pos h1]; exact ⟨h, fun _ _ => rfl, fun _ _ => rfl⟩
  · rw [if_neg h1, if_neg h1]
    by_cases h2 : tk ≤ 16
    · rw [if_pos h2, if_pos h2]
      obtain ⟨H, hH, rfl⟩ := nI_of (x := tk) (fun q => h1 (Int32.lt_trans q (by decide)))
      have hH1 : 1 ≤ H := Nat.not_lt.mp (fun q => h1 ((nI_ltI (b := 1) hH (by decide)).mpr q))
      have hH2 : H ≤ 16 := (nI_leI (b := 16) hH (by decide)).mp h2
      rw [a6]
      exact ⟨anew_sim ht hH1 hH2 a3 a4 rfl a8, fun _ hk => anewM_row hk, fun _ hj => anewM_far hj⟩
    · rw [if_neg h2, if_neg h2]; exact ⟨h, fun _ _ => rfl, fun _ _ => rfl⟩
theorem turn_told {c r : Tb} {b t : Nat} (ht : t ≤ 1000000) (h : SR c (G r b) t) (tk : Int32) : Told c (turnR c tk (nI t)) r (turnM r b tk) b t := by
  obtain ⟨ho, T, a1, a2, a3, a4, a5, a6, a7, a8⟩ := h.ht
  unfold turnR turnM
  by_cases h1 : tk < 4
  · rw [if_pos h1, if_pos h1]; exact ⟨h, fun _ _ => rfl, fun _ _ => rfl⟩
  · rw [if_neg h1, if_neg h1]
    by_cases h2 : tk ≤ 64
    · rw [if_pos h2, if_pos h2]
      obtain ⟨H, hH, rfl⟩ := nI_of (x := tk) (fun q => h1 (Int32.lt_trans q (by decide)))
      have hH1 : 4 ≤ H := Nat.not_lt.mp (fun q => h1 ((nI_ltI (b := 4) hH (by decide)).mpr q))
      have hH2 : H ≤ 64 := (nI_leI (b := 64) hH (by decide)).mp h2
      rw [a5]
      exact ⟨anew_sim ht a1 a2 hH1 hH2 a7 rfl, fun _ hk => anewM_row hk, fun _ hj => anewM_far hj⟩
    · rw [if_neg h2, if_neg h2]; exact ⟨h, fun _ _ => rfl, fun _ _ => rfl⟩
theorem told_1 {tw : Int32} {tp : Nat → Int32} {t ap : Int32} {r1 r2 c' : Tb} {I : Nat → Option Img} {r r' : Tb} (hS : Sim tw tp t ap r1 r2 I r) (h : ∀ T : Nat, T ≤ 1000000 → t = nI T → SR r1 (G r (1510 * 0)) T → Told r1 c' r r' (1510 * 0) T) : Sim tw tp t ap c' r2 I r' := by
  obtain ⟨T, et, hB⟩ := hS.2.1
  obtain ⟨hT, e4, eap, s1, s2⟩ := hB
  obtain ⟨k1, k2, k3⟩ := h T hT et s1.g0
  refine hS.step (x := (t, ap, c', r2)) (fun k _ h1 => k2 k h1) (fun k _ _ => by rw [k2 0 (by decide)]) (T' := T) ⟨et, hT, by rw [k2 0 (by decide)]; exact e4, by rw [k2 0 (by decide)]; exact eap, ?_, ?_⟩
  · have e : G r' (1510 * 0) = r' 1 := by funext j; show r' 1 (1510 * 0 + j) = r' 1 j; rw [Nat.mul_zero, Nat.zero_add]
    rw [e] at k1; exact k1
  · exact s2.gcongr (fun j _ => k3 (1510 + j) (Or.inr (by omega)))
theorem told_2 {tw : Int32} {tp : Nat → Int32} {t ap : Int32} {r1 r2 c' : Tb} {I : Nat → Option Img} {r r' : Tb} (hS : Sim tw tp t ap r1 r2 I r) (h : ∀ T : Nat, T ≤ 1000000 → t = nI T → SR r2 (G r (1510 * 1)) T → Told r2 c' r r' (1510 * 1) T) : Sim tw tp t ap r1 c' I r' := by
  obtain ⟨T, et, hB⟩ := hS.2.1
  obtain ⟨hT, e4, eap, s1, s2⟩ := hB
  obtain ⟨k1, k2, k3⟩ := h T hT et s2.g1
  refine hS.step (x := (t, ap, r1, c')) (fun k _ h1 => k2 k h1) (fun k _ _ => by rw [k2 0 (by decide)]) (T' := T) ⟨et, hT, by rw [k2 0 (by decide)]; exact e4, by rw [k2 0 (by decide)]; exact eap, ?_, k1⟩
  exact s1.gcongr (fun j hj => k3 j (Or.inl (by omega)))
