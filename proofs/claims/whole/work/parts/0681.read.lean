/-! ### a tick of one reader -/
theorem stepB_ok : ((List.range 8).all fun C => (List.range 8).all fun C' => decide ((stepM (nI C') (nI C)).toNatClampNeg < 4) && (decide (stepM (nI C') (nI C) = nI (stepM (nI C') (nI C)).toNatClampNeg) && decide (fm (phaseV (nI C') - phaseV (nI C)) 4 = nI (stepM (nI C') (nI C)).toNatClampNeg))) = true := by decide +kernel
theorem step_eq {C C' : Nat} (hC : C < 8) (hC' : C' < 8) : ∃ st, st < 4 ∧ stepM (nI C') (nI C) = nI st ∧ fm (phaseV (nI C') - phaseV (nI C)) 4 = nI st := by
  have h1 := List.all_eq_true.mp (List.all_eq_true.mp stepB_ok C (List.mem_range.mpr hC)) C' (List.mem_range.mpr hC')
  rw [Bool.and_eq_true, Bool.and_eq_true] at h1
  exact ⟨_, of_decide_eq_true h1.1, of_decide_eq_true h1.2.1, of_decide_eq_true h1.2.2⟩
theorem zeroB_ok : ((List.range 8).all fun C => (List.range 8).all fun C' => decide (nI C' &&& (nI C ^^^ (-1)) &&& 4 = 0) == !(decide (nI C' >>> ((2 : Int32) &&& 31) &&& 1 = 1) && decide (nI C >>> ((2 : Int32) &&& 31) &&& 1 = 0))) = true := by decide +kernel
theorem zero_eq {C C' : Nat} (hC : C < 8) (hC' : C' < 8) : nI C' &&& (nI C ^^^ (-1)) &&& 4 = 0 ↔ ¬ (nI C' >>> ((2 : Int32) &&& 31) &&& 1 = 1 ∧ nI C >>> ((2 : Int32) &&& 31) &&& 1 = 0) := by
  have h1 := List.all_eq_true.mp (List.all_eq_true.mp zeroB_ok C (List.mem_range.mpr hC)) C' (List.mem_range.mpr hC')
  rw [beq_iff_eq] at h1
  by_cases h : nI C' &&& (nI C ^^^ (-1)) &&& 4 = 0
  · rw [decide_eq_true h] at h1
    refine ⟨fun _ q => ?_, fun _ => h⟩
    rw [decide_eq_true q.1, decide_eq_true q.2] at h1
    exact absurd h1 (by decide)
  · rw [decide_eq_false h] at h1
    refine ⟨fun q => absurd q h, fun q => ?_⟩
    exfalso
    apply q
    by_cases q1 : nI C' >>> ((2 : Int32) &&& 31) &&& 1 = 1
    · by_cases q2 : nI C >>> ((2 : Int32) &&& 31) &&& 1 = 0
      · exact ⟨q1, q2⟩
      · rw [decide_eq_true q1, decide_eq_false q2] at h1
        exact absurd h1 (by decide)
    · rw [decide_eq_false q1, Bool.false_and] at h1
      exact absurd h1 (by decide)
theorem note_fr (x : Tb) (ph now : Int32) : noteChangeV x ph now 2 = x 2 ∧ noteChangeV x ph now 0 15 = x 0 15 := by
  unfold noteChangeV
  (repeat' split) <;> exact ⟨rfl, rfl⟩
theorem zero_fr (x : Tb) : zeroV x 2 = x 2 ∧ zeroV x 0 15 = x 0 15 := by
  unfold zeroV
  refine ⟨?_, ?_⟩
  · rw [heedV_row _ (by decide), learnV_row _ _ (by decide) (by decide), up2_row (by decide)]
  · rw [heedV_out _ (by omega), learnV_row _ _ (by decide) (by decide), up2_ne (by decide)]
theorem mid3_far {r : Tb} {b n T j : Nat} {raw : Int32} (h1 : 920 ≤ j) (h2 : j < 1440) : mid3M r b n T raw 1 (b + j) = r 1 (b + j) := by
  unfold mid3M
  split
  · split
    · rw [zeroM_out (by omega), mid2M_out (by omega)]
    · rw [mid2M_out (by omega)]
  · rw [mid2M_out (by omega)]
theorem take_sim {c r : Tb} {b t R : Nat} (hR : R < 8) (ht : t < 1000000) (h : SR c (G r b) t) (h4 : r 0 4 = nI (t + 1)) : SR (takeV c (nI R) (nI (t + 1))) (G (rdM r b (nI R)) b) (t + 1) := by
  obtain ⟨ho, T, C, n, S, Z, E, hnS, hSc, hRg, hLg, hZe, hSk, hPa, hTe, hRn, hMo⟩ := h
  obtain ⟨e4, e5, e6, e7, e8, e9, e33, e12, e13, e14, e10, e11, e71⟩ := hSc
  obtain ⟨⟨a11, a12, a13⟩, ⟨hT4, hT, eT⟩, ⟨hC, eC⟩, a4, a5, a6, a7, a8⟩ := hRg
  obtain ⟨p1, p2, p3, p4⟩ := hPa
  have hnO : nOf r b = n := by unfold nOf; rw [show r 1 (b + 9) = nI n from hLg.1, nI_clamp (by omega)]
  have hTO : tOf r b = T := by unfold tOf; rw [show r 1 (b + 1) = nI T from eT, nI_clamp (by omega)]
  have hSO : sOf r b = S := by unfold sOf; rw [show r 1 (b + 15) = nI S from p1, nI_clamp (by omega)]
  obtain ⟨⟨C', hC', _, l2, l6⟩, lr⟩ := lines_sim (c := c) (r := r) (b := b) (h := ho) (C := C) (R := R) hR hC (e6.trans eC) eC a11 a12 (e4.trans a13) a13 (fun j hj => by rw [Nat.add_assoc]; exact hRn j hj) 3 (by omega)
  have g1 : ∀ j, (j < 2 ∨ 5 < j) → G (cleanM r b (nI R)) b j = G r b j := fun j hj => by
    show cleanM r b (nI R) 1 (b + j) = r 1 (b + j)
    unfold cleanM
    rw [up2_ne (by omega), linesM_out (by omega) (by omega)]
  have g2 : G (cleanM r b (nI R)) b 2 = nI C' := by
    show cleanM r b (nI R) 1 (b + 2) = _
    unfold cleanM
    rw [up2_eq]
    exact l2
  have g3 : ∀ i, i < 3 → settleN c (nI R) 3 1 i = G (cleanM r b (nI R)) b (3 + i) := fun i hi => by
    show _ = cleanM r b (nI R) 1 (b + (3 + i))
    unfold cleanM
    rw [up2_ne (by omega), ← Nat.add_assoc]
    exact lr i hi
  have s0 : ∀ x k, ¬ x = 1 → ¬ (x = 0 ∧ k = 6) → settleN c (nI R) 3 x k = c x k := fun x k h1 h2 => settleN_out c _ h1 h2 3
  have srow : ∀ x, ¬ x = 1 → ¬ x = 0 → settleN c (nI R) 3 x = c x := fun x h1 h2 => by
    funext k
    exact s0 x k h1 (fun q => h2 q.1)
  have c04 : cleanM r b (nI R) 0 4 = nI (t + 1) := by
    unfold cleanM
    rw [up2_row (by decide), linesM_row (by decide), h4]
  have hM : Md (settleN c (nI R) 3) (G (cleanM r b (nI R)) b) t ho T C' n S Z E := by
    refine ⟨⟨?_, ?_, ?_, ?_, ?_, ?_, ?_, ?_, ?_, ?_, ?_, ?_, ?_⟩, ⟨?_, ?_, ⟨hC', g2⟩, ?_, ?_, ?_, ?_, ?_⟩, ?_, ?_, ?_, ?_, g3, ?_⟩
    · rw [s0 0 4 (by decide) (by decide), g1 0 (by omega), e4]
    · rw [s0 0 5 (by decide) (by decide), g1 1 (by omega), e5]
    · rw [l6, g2]
    · rw [s0 0 7 (by decide) (by decide), g1 6 (by omega), e7]
    · rw [s0 0 8 (by decide) (by decide), g1 7 (by omega), e8]
    · rw [s0 0 9 (by decide) (by decide), g1 8 (by omega), e9]
    · rw [s0 3 3 (by decide) (by decide), g1 9 (by omega), e33]
    · rw [s0 0 12 (by decide) (by decide), g1 10 (by omega), e12]
    · rw [s0 0 13 (by decide) (by decide), g1 11 (by omega), e13]
    · rw [s0 0 14 (by decide) (by decide), g1 12 (by omega), e14]
    · rw [s0 0 10 (by decide) (by decide), g1 13 (by omega), e10]
    · rw [s0 0 11 (by decide) (by decide), g1 14 (by omega), e11]
    · rw [s0 7 1 (by decide) (by decide), g1 17 (by omega), e71]
    · rw [g1 0 (by omega)]; exact ⟨a11, a12, a13⟩
    · rw [g1 1 (by omega)]; exact ⟨hT4, hT, eT⟩
    · rw [g1 13 (by omega)]; exact a4
    · rw [g1 6 (by omega)]; exact a5
    · rw [g1 7 (by omega)]; exact a6
    · rw [g1 8 (by omega)]; exact a7
    · rw [g1 14 (by omega)]; exact a8
    · exact hLg.of (srow 4 (by decide) (by decide)) (srow 5 (by decide) (by decide)) (srow 6 (by decide) (by decide)) (g1 9 (by omega)) (fun j h1 h2 => g1 j (by omega)) (Nat.le_refl _)
    · exact hZe.of (s0 7 2 (by decide) (by decide)) (g1 16 (by omega)) (fun j h1 h2 => g1 j (by omega)) (Nat.le_refl _)
    · exact hSk.of (s0 3 4 (by decide) (by decide)) (fun j h1 h2 => g1 j (by omega))
    · exact hTe.of (srow 8 (by decide) (by decide)) (fun j h1 h2 => g1 j (by omega))
    · exact hMo.of (fun j h1 h2 => g1 j (by omega))
  obtain ⟨st, hst, st1, st2⟩ := step_eq hC hC'
  have hN := note_sim ht (by omega) hM c04 st hst
  have mE : midV c (nI R) (nI (t + 1)) = noteChangeV (settleN c (nI R) 3) (nI st) (nI (t + 1)) := by
    unfold midV
    rw [l6, e6, eC, st2]
  have m2E : mid2M r b n (nI R) = evM (cleanM r b (nI R)) b n (nI st) := by
    unfold mid2M
    rw [l2, show r 1 (b + 2) = nI C from eC, st1]
  have n1E : evN n (stepM (linesM r b (nI R) 3).2 (r 1 (b + 2))) = evN n (nI st) := by rw [l2, show r 1 (b + 2) = nI C from eC, st1]
  rw [← mE, ← m2E] at hN
  have hn1 : evN n (nI st) ≤ n + 1 := evN_le n (nI st)
  have fr := note_fr (settleN c (nI R) 3) (nI st) (nI (t + 1))
  rw [← mE, srow 2 (by decide) (by decide), s0 0 15 (by decide) (by decide)] at fr
  -- what the mark does
  obtain ⟨m3, r3, Z3, E3, hm3, hr3, hN3, f2, f15⟩ : ∃ (m3 : Tb) (r3 : Tb) (Z3 E3 : Nat), (if midV c (nI R) (nI (t + 1)) 0 6 &&& (c 0 6 ^^^ (-1)) &&& 4 = 0 then midV c (nI R) (nI (t + 1)) else zeroV (midV c (nI R) (nI (t + 1)))) = m3 ∧ mid3M r b n T (nI R) = r3 ∧ Md m3 (G r3 b) (t + 1) ho T C' (evN n (nI st)) S Z3 E3 ∧ m3 2 = c 2 ∧ m3 0 15 = c 0 15 := by
    have k6 : midV c (nI R) (nI (t + 1)) 0 6 = nI C' := hN.1.2.2.1.trans hN.2.1.2.2.1.2
    have hzq := zero_eq hC hC'
    by_cases hz : nI C' &&& (nI C ^^^ (-1)) &&& 4 = 0
    · refine ⟨_, _, Z, E, rfl, rfl, ?_, ?_, ?_⟩
      · rw [k6, e6, eC, if_pos hz]
        have hm : mid3M r b n T (nI R) = mid2M r b n (nI R) := by
          unfold mid3M
          rw [l2, show r 1 (b + 2) = nI C from eC]
          by_cases q1 : nI C' >>> ((2 : Int32) &&& 31) &&& 1 = 1
          · rw [if_pos q1, if_neg (fun q2 => hzq.mp hz ⟨q1, q2⟩)]
          · rw [if_neg q1]
        rw [hm]
        exact hN
      · rw [k6, e6, eC, if_pos hz]; exact fr.1
      · rw [k6, e6, eC, if_pos hz]; exact fr.2
    · have hq := Classical.not_not.mp (fun q => hz (hzq.mpr q))
      refine ⟨_, _, t + 1, evN n (nI st), rfl, rfl, ?_, ?_, ?_⟩
      · rw [k6, e6, eC, if_neg hz]
        have hm : mid3M r b n T (nI R) = zeroM (mid2M r b n (nI R)) b (evN n (nI st)) T := by
          unfold mid3M
          rw [n1E, l2, show r 1 (b + 2) = nI C from eC, if_pos hq.1, if_pos hq.2]
        rw [hm]
        exact zero_sim (by omega) (by omega) (by omega) hN (by rw [mid2M_row (by decide), h4])
      · rw [k6, e6, eC, if_neg hz, (zero_fr _).1]; exact fr.1
      · rw [k6, e6, eC, if_neg hz, (zero_fr _).2]; exact fr.2
  have tE : takeV c (nI R) (nI (t + 1)) = notePlaceV m3 (nI (t + 1)) := by unfold takeV; rw [hm3]
  have rE : G (rdM r b (nI R)) b = upd (upd (G r3 b) 15 (G r3 b 15 + 1)) (920 + (S + 1) % 512) (G r3 b 6) := by
    unfold rdM readM
    rw [hnO, hTO, hSO, hr3, G_up3, G_up]
    rfl
  have pN : pathN (nI (t + 1)) = (t + 1) % 501 := by
    unfold pathN
    rw [nI_toInt (by omega)]
    omega
  have hm512 : (S + 1) % 512 < 512 := Nat.mod_lt _ (by decide)
  have g4o : ∀ j, j ≠ 15 → (j < 920 ∨ 1432 ≤ j) → G (rdM r b (nI R)) b j = G r3 b j := fun j h1 h2 => by rw [rE, pk_un (by omega), pk_un h1]
  have g15 : G r3 b 15 = nI S := by
    rw [← hr3]
    show mid3M r b n T (nI R) 1 (b + 15) = _
    rw [mid3M_15]
    exact p1
  have gfar : ∀ j, 920 ≤ j → j < 1440 → G r3 b j = G r b j := fun j h1 h2 => by
    rw [← hr3]
    exact mid3_far h1 h2
  obtain ⟨hSc3, hRg3, hLg3, hZe3, hSk3, hTe3, hRn3, hMo3⟩ := hN3
  obtain ⟨d4, d5, d6, d7, d8, d9, d33, d12, d13, d14, d10, d11, d71⟩ := hSc3
  obtain ⟨b1, b2, b3, b4, b5, b6, b7, b8⟩ := hRg3
  rw [tE]
  refine ⟨ho, T, C', evN n (nI st), S + 1, Z3, E3, by omega, ⟨?_, ?_, ?_, ?_, ?_, ?_, ?_, ?_, ?_, ?_, ?_, ?_, ?_⟩, ⟨?_, ?_, ?_, ?_, ?_, ?_, ?_, ?_⟩, ?_, ?_, ?_, ?_, ?_, ?_, ?_⟩
  · rw [g4o 0 (by omega) (by omega)]; exact d4
  · rw [g4o 1 (by omega) (by omega)]; exact d5
  · rw [g4o 2 (by omega) (by omega)]; exact d6
  · rw [g4o 6 (by omega) (by omega)]; exact d7
  · rw [g4o 7 (by omega) (by omega)]; exact d8
  · rw [g4o 8 (by omega) (by omega)]; exact d9
  · rw [g4o 9 (by omega) (by omega)]; exact d33
  · rw [g4o 10 (by omega) (by omega)]; exact d12
  · rw [g4o 11 (by omega) (by omega)]; exact d13
  · rw [g4o 12 (by omega) (by omega)]; exact d14
  · rw [g4o 13 (by omega) (by omega)]; exact d10
  · rw [g4o 14 (by omega) (by omega)]; exact d11
  · rw [g4o 17 (by omega) (by omega)]; exact d71
  · rw [g4o 0 (by omega) (by omega)]; exact b1
  · rw [g4o 1 (by omega) (by omega)]; exact b2
  · rw [g4o 2 (by omega) (by omega)]; exact b3
  · rw [g4o 13 (by omega) (by omega)]; exact b4
  · rw [g4o 6 (by omega) (by omega)]; exact b5
  · rw [g4o 7 (by omega) (by omega)]; exact b6
  · rw [g4o 8 (by omega) (by omega)]; exact b7
  · rw [g4o 14 (by omega) (by omega)]; exact b8
  · exact hLg3.of rfl rfl rfl (g4o 9 (by omega) (by omega)) (fun j h1 h2 => g4o j (by omega) (by omega)) (Nat.le_refl _)
  · exact hZe3.of rfl (g4o 16 (by omega) (by omega)) (fun j h1 h2 => g4o j (by omega) (by omega)) (Nat.le_refl _)
  · exact hSk3.of rfl (fun j h1 h2 => g4o j (by omega) (by omega))
  · refine ⟨?_, by omega, ?_, fun d hd hdS => ?_⟩
    · rw [rE, pk_un (by omega), pk_us, g15]; exact nI_1 S
    · show m3 0 15 = _
      rw [f15, p3]
      congr 1
      omega
    · show upd (m3 2) (pathN (nI (t + 1))) (m3 0 7) ((t + 1 - d) % 501) = _
      rw [pN, f2]
      rcases Nat.eq_zero_or_pos d with z | z
      · subst z
        rw [show t + 1 - 0 = t + 1 by omega, pk_us, if_neg (by omega), show S + 1 - 0 = S + 1 by omega, rE, pk_us]
        exact d7
      · rw [pk_un (by omega), show t + 1 - d = t - (d - 1) by omega, p4 (d - 1) (by omega) (by omega)]
        by_cases hz : d = S + 1
        · rw [if_pos hz, if_pos (by omega)]
        · have hm2 : (S + 1 - d) % 512 < 512 := Nat.mod_lt _ (by decide)
          rw [if_neg hz, if_neg (by omega), show S - (d - 1) = S + 1 - d by omega, rE, pk_un (by omega), pk_un (by omega), gfar _ (by omega) (by omega)]
  · exact hTe3.of rfl (fun j h1 h2 => g4o j (by omega) (by omega))
  · intro i hi
    rw [g4o _ (by omega) (by omega)]
    exact hRn3 i hi
  · exact hMo3.of (fun j h1 h2 => g4o j (by omega) (by omega))
