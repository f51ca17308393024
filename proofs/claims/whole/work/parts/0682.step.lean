/-! ### a tick of both -/
theorem SR.congr {c c' : Tb} {g g' : Nat → Int32} {t : Nat} (hg : ∀ j, j < 1510 → g' j = g j) (h0 : ∀ k, 4 ≤ k → k ≤ 15 → c' 0 k = c 0 k) (h1 : ∀ k, k < 3 → c' 1 k = c 1 k) (h2 : ∀ k, k < 501 → c' 2 k = c 2 k) (h3 : c' 3 3 = c 3 3 ∧ c' 3 4 = c 3 4) (h4 : ∀ k, k < 300 → c' 4 k = c 4 k ∧ c' 5 k = c 5 k ∧ c' 6 k = c 6 k) (h7 : c' 7 1 = c 7 1 ∧ c' 7 2 = c 7 2) (h8 : ∀ k, k < 64 → c' 8 k = c 8 k) (h : SR c g t) : SR c' g' t := by
  obtain ⟨ho, T, C, n, S, Z, E, hnS, hSc, hRg, hLg, hZe, hSk, hPa, hTe, hRn, hMo⟩ := h
  obtain ⟨e4, e5, e6, e7, e8, e9, e33, e12, e13, e14, e10, e11, e71⟩ := hSc
  obtain ⟨a1, a2, a3, a4, a5, a6, a7, a8⟩ := hRg
  obtain ⟨p1, p2, p3, p4⟩ := hPa
  obtain ⟨z1, z2, z3, z4, z5, z6⟩ := hZe
  refine ⟨ho, T, C, n, S, Z, E, hnS, ⟨?_, ?_, ?_, ?_, ?_, ?_, ?_, ?_, ?_, ?_, ?_, ?_, ?_⟩, ⟨?_, ?_, ?_, ?_, ?_, ?_, ?_, ?_⟩, ⟨by rw [hg 9 (by omega)]; exact hLg.1, fun k hk hn => ?_⟩, ?_, hSk.of h3.2 (fun j h1 h2 => hg j (by omega)), ⟨by rw [hg 15 (by omega)]; exact p1, p2, by rw [h0 15 (by omega) (by omega)]; exact p3, fun d hd hdS => ?_⟩, fun k hk => by rw [h8 k hk, hg _ (by omega)]; exact hTe k hk, fun i hi => by rw [h1 i hi, hg _ (by omega)]; exact hRn i hi, hMo.of (fun j h1 h2 => hg j (by omega))⟩
  · rw [h0 4 (by omega) (by omega), hg 0 (by omega)]; exact e4
  · rw [h0 5 (by omega) (by omega), hg 1 (by omega)]; exact e5
  · rw [h0 6 (by omega) (by omega), hg 2 (by omega)]; exact e6
  · rw [h0 7 (by omega) (by omega), hg 6 (by omega)]; exact e7
  · rw [h0 8 (by omega) (by omega), hg 7 (by omega)]; exact e8
  · rw [h0 9 (by omega) (by omega), hg 8 (by omega)]; exact e9
  · rw [h3.1, hg 9 (by omega)]; exact e33
  · rw [h0 12 (by omega) (by omega), hg 10 (by omega)]; exact e12
  · rw [h0 13 (by omega) (by omega), hg 11 (by omega)]; exact e13
  · rw [h0 14 (by omega) (by omega), hg 12 (by omega)]; exact e14
  · rw [h0 10 (by omega) (by omega), hg 13 (by omega)]; exact e10
  · rw [h0 11 (by omega) (by omega), hg 14 (by omega)]; exact e11
  · rw [h7.1, hg 17 (by omega)]; exact e71
  · rw [hg 0 (by omega)]; exact a1
  · rw [hg 1 (by omega)]; exact a2
  · rw [hg 2 (by omega)]; exact a3
  · rw [hg 13 (by omega)]; exact a4
  · rw [hg 6 (by omega)]; exact a5
  · rw [hg 7 (by omega)]; exact a6
  · rw [hg 8 (by omega)]; exact a7
  · rw [hg 14 (by omega)]; exact a8
  · rw [(h4 k hk).1, (h4 k hk).2.1, (h4 k hk).2.2, hg _ (by omega), hg _ (by omega), hg _ (by omega)]
    exact hLg.2 k hk hn
  · refine ⟨by rw [hg 16 (by omega)]; exact z1, z2, by rw [h7.2]; exact z3, z4, z5, fun j hj hj2 => ?_⟩
    have h3 : j % 300 < 300 := Nat.mod_lt _ (by decide)
    rw [hg _ (by omega)]
    exact z6 j hj hj2
  · have hm : (S - d) % 512 < 512 := Nat.mod_lt _ (by decide)
    rw [h2 _ (Nat.mod_lt _ (by decide)), hg _ (by omega)]
    exact p4 d hd hdS
theorem SR.gcongr {c : Tb} {g g' : Nat → Int32} {t : Nat} (hg : ∀ j, j < 1510 → g' j = g j) (h : SR c g t) : SR c g' t := h.congr hg (fun _ _ _ => rfl) (fun _ _ => rfl) (fun _ _ => rfl) ⟨rfl, rfl⟩ (fun _ _ => ⟨rfl, rfl, rfl⟩) ⟨rfl, rfl⟩ (fun _ _ => rfl)
theorem BR.fcongr {t : Nat} {ap : Int32} {r1 r2 : Tb} {f f' : Nat → Int32} {tk apm : Int32} (hf : ∀ j, j < 3020 → f' j = f j) (h : BR t ap r1 r2 f tk apm) : BR t ap r1 r2 f' tk apm := by
  obtain ⟨h1, h2, h3, s1, s2⟩ := h
  exact ⟨h1, h2, h3, s1.gcongr (fun j hj => hf j (by omega)), s2.gcongr (fun j hj => hf (1510 + j) (by omega))⟩
theorem way_bnd {a b : Int} {T : Nat} (ha : -8000000 ≤ a ∧ a ≤ 8000000) (hT : T ≤ 64) (e : b = a * (T : Int)) : -512000000 ≤ b ∧ b ≤ 512000000 := by
  have h1 : (a * (T : Int)).natAbs = a.natAbs * T := by rw [Int.natAbs_mul]; rfl
  have h2 : a.natAbs * T ≤ 8000000 * 64 := Nat.mul_le_mul (by omega) hT
  rw [← e] at h1
  omega
theorem agree_sim {c1 c2 r : Tb} {t : Nat} (ht : t ≤ 1000000) (h1 : SR c1 (r 1) t) (h2 : SR c2 (fun j => r 1 (1510 + j)) t) : agreeV c1 c2 = agreeM r := by
  obtain ⟨_, T1, _, _, _, _, _, _, hSc1, hRg1, _⟩ := h1
  obtain ⟨_, T2, _, _, _, _, _, _, hSc2, hRg2, _⟩ := h2
  obtain ⟨_, e5, _, e7, _, _, _, _, _, _, e10, e11, _⟩ := hSc1
  obtain ⟨_, f5, _, f7, _, _, _, _, _, _, f10, f11, _⟩ := hSc2
  obtain ⟨_, ⟨_, hT1, eT1⟩, _, _, b6, _, _, b14⟩ := hRg1
  obtain ⟨_, ⟨_, hT2, eT2⟩, _, _, d6, _, _, d14⟩ := hRg2
  have f5 : c2 0 5 = r 1 1511 := f5
  have f7 : c2 0 7 = r 1 1516 := f7
  have f10 : c2 0 10 = r 1 1523 := f10
  have f11 : c2 0 11 = r 1 1524 := f11
  have eT2 : r 1 1511 = nI T2 := eT2
  have d6 : Bnd (r 1 1516) t := d6
  have d14 : Bnd (r 1 1524) t := d14
  unfold Bnd at b6 b14 d6 d14
  have i1 : (r 1 1).toInt = (T1 : Int) := by rw [eT1, nI_toInt (by omega)]
  have i2 : (r 1 1511).toInt = (T2 : Int) := by rw [eT2, nI_toInt (by omega)]
  have s1 : (r 1 6 - r 1 14).toInt = (r 1 6).toInt - (r 1 14).toInt := Jvm.Kit.i32_sub (by omega) (by omega)
  have s2 : (r 1 1516 - r 1 1524).toInt = (r 1 1516).toInt - (r 1 1524).toInt := Jvm.Kit.i32_sub (by omega) (by omega)
  obtain ⟨w1, hw1⟩ : ∃ w, w = ((r 1 6).toInt - (r 1 14).toInt) * (T2 : Int) := ⟨_, rfl⟩
  obtain ⟨w2, hw2⟩ : ∃ w, w = ((r 1 1516).toInt - (r 1 1524).toInt) * (T1 : Int) := ⟨_, rfl⟩
  have k1 := way_bnd (by omega) hT2 hw1
  have k2 := way_bnd (by omega) hT1 hw2
  have p1 : ((r 1 6 - r 1 14) * r 1 1511).toInt = w1 := by rw [Jvm.Kit.i32_mul (by rw [s1, i2, ← hw1]; omega) (by rw [s1, i2, ← hw1]; omega), s1, i2, ← hw1]
  have p2 : ((r 1 1516 - r 1 1524) * r 1 1).toInt = w2 := by rw [Jvm.Kit.i32_mul (by rw [s2, i1, ← hw2]; omega) (by rw [s2, i1, ← hw2]; omega), s2, i1, ← hw2]
  have wM : (wayM r).toInt = w1 - w2 := by unfold wayM; rw [Jvm.Kit.i32_sub (by rw [p1, p2]; omega) (by rw [p1, p2]; omega), p1, p2]
  have wN : (-wayM r).toInt = -(w1 - w2) := by rw [Jvm.Kit.i32_neg (by rw [wM]; omega), wM]
  have q1 : ((r 1 6 - r 1 14).toInt64 * (r 1 1511).toInt64).toInt = w1 := by rw [Jvm.Kit.i64_mul (by rw [Jvm.Kit.i64_of_i32, Jvm.Kit.i64_of_i32, s1, i2, ← hw1]; omega) (by rw [Jvm.Kit.i64_of_i32, Jvm.Kit.i64_of_i32, s1, i2, ← hw1]; omega), Jvm.Kit.i64_of_i32, Jvm.Kit.i64_of_i32, s1, i2, ← hw1]
  have q2 : ((r 1 1516 - r 1 1524).toInt64 * (r 1 1).toInt64).toInt = w2 := by rw [Jvm.Kit.i64_mul (by rw [Jvm.Kit.i64_of_i32, Jvm.Kit.i64_of_i32, s2, i1, ← hw2]; omega) (by rw [Jvm.Kit.i64_of_i32, Jvm.Kit.i64_of_i32, s2, i1, ← hw2]; omega), Jvm.Kit.i64_of_i32, Jvm.Kit.i64_of_i32, s2, i1, ← hw2]
  have wL : (wayL c1 c2).toInt = w1 - w2 := by unfold wayL; rw [e7, e11, f5, f7, f11, e5, Jvm.Kit.i64_sub (by rw [q1, q2]; omega) (by rw [q1, q2]; omega), q1, q2]
  have wL2 : (-wayL c1 c2).toInt = -(w1 - w2) := by rw [Jvm.Kit.i64_neg (by rw [wL]; omega), wL]
  have hs : (r 1 1 + r 1 1511).toInt = (T1 : Int) + (T2 : Int) := by rw [Jvm.Kit.i32_add (by rw [i1, i2]; omega) (by rw [i1, i2]; omega), i1, i2]
  have hs64 : ((r 1 1 + r 1 1511).toInt64).toInt = (T1 : Int) + (T2 : Int) := by rw [Jvm.Kit.i64_of_i32, hs]
  unfold agreeV agreeM
  rw [e10, f10]
  by_cases z1 : r 1 13 = 0
  · rw [if_pos z1, if_pos z1]
  · rw [if_neg z1, if_neg z1]
    by_cases z2 : r 1 1523 = 0
    · rw [if_pos z2, if_pos z2]
    · rw [if_neg z2, if_neg z2, e5, f5]
      have hcl : 0 < lg_cmp (if 0 < wayL c1 c2 then wayL c1 c2 else -wayL c1 c2) ((r 1 1 + r 1 1511).toInt64) ↔ (r 1 1 + r 1 1511 < wayM r ∨ r 1 1 + r 1 1511 < -wayM r) := by
        rw [lg_cmp_gt, Int64.lt_iff_toInt_lt, hs64, Int32.lt_iff_toInt_lt, Int32.lt_iff_toInt_lt, hs, wM, wN]
        by_cases z3 : 0 < wayL c1 c2
        · have z4 := Int64.lt_iff_toInt_lt.mp z3
          rw [wL, Int64.toInt_zero] at z4
          rw [if_pos z3, wL]
          omega
        · have z4 : ¬ (0 : Int64).toInt < (wayL c1 c2).toInt := fun q => z3 (Int64.lt_iff_toInt_lt.mpr q)
          rw [wL, Int64.toInt_zero] at z4
          rw [if_neg z3, wL2]
          omega
      by_cases z3 : r 1 1 + r 1 1511 < wayM r
      · rw [if_pos (hcl.mpr (Or.inl z3)), if_pos z3]
      · rw [if_neg z3]
        by_cases z4 : r 1 1 + r 1 1511 < -wayM r
        · rw [if_pos (hcl.mpr (Or.inr z4)), if_pos z4]
        · rw [if_neg (fun q => (hcl.mp q).elim z3 z4), if_neg z4]
theorem rdM_row {r : Tb} {b c : Nat} {raw : Int32} (h : c ≠ 1) : rdM r b raw c = r c := readM_row h
theorem tOf_le {c r : Tb} {b t : Nat} (h : SR c (G r b) t) : tOf r b ≤ 64 := by
  obtain ⟨_, T, _, _, _, _, _, _, _, hRg, _⟩ := h
  obtain ⟨_, ⟨_, hT, eT⟩, _⟩ := hRg
  have eT : r 1 (b + 1) = nI T := eT
  unfold tOf
  rw [eT, nI_clamp (by omega)]
  exact hT
/-- what a tick leaves -/
theorem oneA_row {r : Tb} {f g : Int32} {k : Nat} (h0 : k ≠ 0) (h1 : k ≠ 1) : oneA r f g k = r k := by unfold oneA; rw [rdM_row h1, rdM_row h1, up2_row h0]
theorem oneA_0 {r : Tb} {f g : Int32} {k : Nat} (h : k ≠ 4) : oneA r f g 0 k = r 0 k := by unfold oneA; rw [rdM_row (by decide), rdM_row (by decide), up2_ne h]
theorem oneM_row {r : Tb} {f g : Int32} {k : Nat} (h0 : k ≠ 0) (h1 : k ≠ 1) : oneM r f g k = r k := by
  unfold oneM
  split
  · split
    · rw [up2_row h0, oneA_row h0 h1]
    · rw [oneA_row h0 h1]
  · rw [up2_row h0, oneA_row h0 h1]
theorem oneM_0 {r : Tb} {f g : Int32} {k : Nat} (h : k ≠ 4) (h5 : k ≠ 5) : oneM r f g 0 k = r 0 k := by
  unfold oneM
  split
  · split
    · rw [up2_ne h5, oneA_0 h]
    · rw [oneA_0 h]
  · rw [up2_ne h5, oneA_0 h]
def BX (t : Nat) (x : BS) (r : Tb) : Prop := x.1 = nI t ∧ BR t x.2.1 x.2.2.1 x.2.2.2 (r 1) (r 0 4) (r 0 5)
theorem one_sim {t R1 R2 : Nat} {x : BS} {r : Tb} (h1 : R1 < 8) (h2 : R2 < 8) (ht : t < 1000000) (h : BX t x r) : BX (t + 1) (stepB x (nI R1) (nI R2)) (oneM r (nI R1) (nI R2)) := by
  obtain ⟨tt, ap, r1, r2⟩ := x
  obtain ⟨e1, hT, e4, eap, s1, s2⟩ := h
  dsimp only at e1 eap s1 s2
  have ea : up2 r 0 4 (r 0 4 + 1) 0 4 = nI (t + 1) := by rw [up2_eq, e4]; exact nI_1 t
  have g0 : G (up2 r 0 4 (r 0 4 + 1)) 0 = r 1 := by funext j; show up2 r 0 4 (r 0 4 + 1) 1 (0 + j) = r 1 j; rw [Nat.zero_add]; rfl
  have s1' : SR r1 (G (up2 r 0 4 (r 0 4 + 1)) 0) t := by rw [g0]; exact s1
  have t1 := take_sim h1 ht s1' ea
  have l1 := tOf_le s1'
  have g1 : G (rdM (up2 r 0 4 (r 0 4 + 1)) 0 (nI R1)) 1510 = fun j => r 1 (1510 + j) := by
    funext j
    show rdM (up2 r 0 4 (r 0 4 + 1)) 0 (nI R1) 1 (1510 + j) = _
    unfold rdM
    rw [readM_far l1 (by omega)]
    rfl
  have s2' : SR r2 (G (rdM (up2 r 0 4 (r 0 4 + 1)) 0 (nI R1)) 1510) t := by rw [g1]; exact s2
  have eb : rdM (up2 r 0 4 (r 0 4 + 1)) 0 (nI R1) 0 4 = nI (t + 1) := by rw [rdM_row (by decide)]; exact ea
  have t2 := take_sim h2 ht s2' eb
  have l2 := tOf_le s2'
  have u1 : SR (takeV r1 (nI R1) (nI (t + 1))) (oneA r (nI R1) (nI R2) 1) (t + 1) := by
    refine t1.gcongr (fun j hj => ?_)
    show rdM (rdM (up2 r 0 4 (r 0 4 + 1)) 0 (nI R1)) 1510 (nI R2) 1 j = rdM (up2 r 0 4 (r 0 4 + 1)) 0 (nI R1) 1 (0 + j)
    unfold rdM at l2 ⊢
    rw [readM_far l2 (by omega), Nat.zero_add]
  have u2 : SR (takeV r2 (nI R2) (nI (t + 1))) (fun j => oneA r (nI R1) (nI R2) 1 (1510 + j)) (t + 1) := t2
  have ag := agree_sim (by omega) u1 u2
  have en : tt + 1 = nI (t + 1) := by rw [e1]; exact nI_1 t
  have o4 : oneA r (nI R1) (nI R2) 0 4 = nI (t + 1) := by unfold oneA; rw [rdM_row (by decide)]; exact eb
  have o5 : oneA r (nI R1) (nI R2) 0 5 = r 0 5 := oneA_0 (by decide)
  have oM1 : oneM r (nI R1) (nI R2) 1 = oneA r (nI R1) (nI R2) 1 := by
    unfold oneM
    split
    · split
      · rw [up2_row (by decide)]
      · rfl
    · rw [up2_row (by decide)]
  have oM4 : oneM r (nI R1) (nI R2) 0 4 = nI (t + 1) := by
    unfold oneM
    split
    · split
      · rw [up2_ne (by decide), o4]
      · exact o4
    · rw [up2_ne (by decide), o4]
  have oM5 : oneM r (nI R1) (nI R2) 0 5 = apV (agreeM (oneA r (nI R1) (nI R2))) (r 0 5) (nI (t + 1)) := by
    unfold oneM apV
    by_cases z1 : agreeM (oneA r (nI R1) (nI R2)) = 0
    · rw [if_pos z1, if_pos z1]
      by_cases z2 : r 0 5 = -1
      · rw [if_pos z2, if_pos z2, up2_eq, e4]; exact nI_1 t
      · rw [if_neg z2, if_neg z2, o5]
    · rw [if_neg z1, if_neg z1, up2_eq]
  refine ⟨en, by omega, oM4, ?_, ?_, ?_⟩
  · show apV (agreeV (takeV r1 (nI R1) (tt + 1)) (takeV r2 (nI R2) (tt + 1))) ap (tt + 1) = _
    rw [en, ag, oM5, eap]
  · show SR (takeV r1 (nI R1) (tt + 1)) _ _
    rw [en, oM1]; exact u1
  · show SR (takeV r2 (nI R2) (tt + 1)) _ _
    rw [en, oM1]; exact u2
theorem steps_sim {R1 R2 : Nat} {x : BS} {r : Tb} {t : Nat} (h1 : R1 < 8) (h2 : R2 < 8) (h : BX t x r) : ∀ n, t + n ≤ 1000000 → BX (t + n) (stepsB x (nI R1) (nI R2) n) (stepsM r (nI R1) (nI R2) n) ∧ (∀ k, k ≠ 0 → k ≠ 1 → stepsM r (nI R1) (nI R2) n k = r k) ∧ (∀ k, k ≠ 4 → k ≠ 5 → stepsM r (nI R1) (nI R2) n 0 k = r 0 k) := by
  intro n
  induction n with
  | zero => intro _; exact ⟨h, fun _ _ _ => rfl, fun _ _ _ => rfl⟩
  | succ n ih =>
    intro hn
    obtain ⟨i1, i2, i3⟩ := ih (by omega)
    refine ⟨one_sim (t := t + n) h1 h2 (by omega) i1, fun k k0 k1 => ?_, fun k k4 k5 => ?_⟩
    · exact (oneM_row k0 k1).trans (i2 k k0 k1)
    · exact (oneM_0 k4 k5).trans (i3 k k4 k5)
