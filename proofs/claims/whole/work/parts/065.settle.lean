/-! ### what a change leaves as it was -/
theorem G_up {r : Tb} {b i : Nat} {v : Int32} : G (up2 r 1 (b + i) v) b = upd (G r b) i v := by
  funext j
  show (if (1 : Nat) = 1 then upd (r 1) (b + i) v else r 1) (b + j) = if j = i then v else r 1 (b + j)
  rw [if_pos rfl]
  unfold upd
  by_cases h : j = i
  · rw [if_pos h, if_pos (by omega)]
  · rw [if_neg h, if_neg (by omega)]
theorem G_up3 {r : Tb} {b i k : Nat} {v : Int32} : G (up2 r 1 (b + i + k) v) b = upd (G r b) (i + k) v := by
  rw [Nat.add_assoc]; exact G_up
theorem G_row {r : Tb} {b k c : Nat} {v : Int32} (h : 1 ≠ c) : G (up2 r c k v) b = G r b := by
  funext j
  show up2 r c k v 1 (b + j) = r 1 (b + j)
  rw [up2_row h]
section
variable {c c' : Tb} {g g' : Nat → Int32} {t t' n S Z E : Nat}
theorem Lg.of (h4 : c' 4 = c 4) (h5 : c' 5 = c 5) (h6 : c' 6 = c 6) (g9 : g' 9 = g 9) (hg : ∀ j, 20 ≤ j → j < 920 → g' j = g j) (ht : t ≤ t') (h : Lg c g t n) : Lg c' g' t' n := by
  refine ⟨g9.trans h.1, fun k hk hn => ?_⟩
  obtain ⟨l4, l5, l6, a, a1, a2, a3⟩ := h.2 k hk hn
  rw [h4, h5, h6, hg _ (by omega) (by omega), hg _ (by omega) (by omega), hg _ (by omega) (by omega)]
  exact ⟨l4, l5, l6, a, a1, by omega, a3⟩
theorem Ze.of (h7 : c' 7 2 = c 7 2) (g16 : g' 16 = g 16) (hg : ∀ j, 320 ≤ j → j < 620 → g' j = g j) (ht : t ≤ t') (h : Ze c g t n Z E) : Ze c' g' t' n Z E := by
  obtain ⟨a1, a2, a3, a4, a5, a6⟩ := h
  refine ⟨g16.trans a1, by omega, h7.trans a3, a4, a5, fun j hj hj2 => ?_⟩
  have h3 : j % 300 < 300 := Nat.mod_lt _ (by decide)
  rw [hg _ (by omega) (by omega)]
  exact a6 j hj hj2
theorem srt.of (hg : ∀ j, 20 ≤ j → j < 320 → g' j = g j) (k : Nat) : srt g' n k = srt g n k := by
  have h3 : (n - 1 - k) % 300 < 300 := Nat.mod_lt _ (by decide)
  exact hg _ (by omega) (by omega)
theorem runOf.of {q : Nat} {so : Int32} (hg : ∀ j, 20 ≤ j → j < 320 → g' j = g j) (h : runOf g n q so) : runOf g' n q so :=
  ⟨h.1, fun k h1 h2 => (srt.of hg k).trans (h.2.1 k h1 h2), fun h1 h2 => by rw [srt.of hg q]; exact h.2.2 h1 h2⟩
theorem Sk.of (h34 : c' 3 4 = c 3 4) (hg : ∀ j, 20 ≤ j → j < 320 → g' j = g j) (h : Sk c g n) : Sk c' g' n := by
  unfold Sk
  rw [h34, srt.of hg 0]
  rcases h with h | ⟨q, h1, h2 | h2⟩
  · exact Or.inl h
  · exact Or.inr ⟨q, h1, Or.inl ⟨h2.1, h2.2.of hg⟩⟩
  · exact Or.inr ⟨q, h1, Or.inr ⟨h2.1, h2.2.of hg⟩⟩
theorem Mo.of (hg : ∀ j, 320 ≤ j → j < 620 → g' j = g j) (h : Mo g n) : Mo g' n := fun i j h1 h2 h3 => by
  have hi : i % 300 < 300 := Nat.mod_lt _ (by decide)
  have hj : j % 300 < 300 := Nat.mod_lt _ (by decide)
  rw [hg _ (by omega) (by omega), hg _ (by omega) (by omega)]
  exact h i j h1 h2 h3
theorem Pa.of (h15 : c' 0 15 = c 0 15) (h2 : c' 2 = c 2) (g15 : g' 15 = g 15) (hg : ∀ j, 920 ≤ j → j < 1432 → g' j = g j) (h : Pa c g t S) : Pa c' g' t S := by
  obtain ⟨a1, a2, a3, a4⟩ := h
  refine ⟨g15.trans a1, a2, h15.trans a3, fun d h1 h3 => ?_⟩
  have hm : (S - d) % 512 < 512 := Nat.mod_lt _ (by decide)
  rw [h2, hg _ (by omega) (by omega)]
  exact a4 d h1 h3
theorem Te.of (h8 : c' 8 = c 8) (hg : ∀ j, 1440 ≤ j → j < 1504 → g' j = g j) (h : Te c g) : Te c' g' := fun k hk => by
  rw [h8, hg _ (by omega) (by omega)]
  exact h k hk
theorem Bnd.mono {x : Int32} (h : Bnd x t) (ht : t ≤ t') : Bnd x t' := by
  unfold Bnd at *
  omega
theorem Rg.mono {h T C : Nat} (hr : Rg g t h T C) (ht : t ≤ t') : Rg g t' h T C := by
  obtain ⟨a1, a2, a3, a4, a5, a6, a7, a8⟩ := hr
  exact ⟨a1, a2, a3, a4, a5.mono ht, a6.mono ht, a7.mono ht, a8.mono ht⟩
end
/-! ### the lines -/
theorem bit_eqB : ((List.range 3).all fun i => (List.range 8).all fun R => (List.range 8).all fun C => (List.range 8).all fun Ci => !(Ci / 2 ^ i == C / 2 ^ i) || (decide ((nI R ^^^ nI Ci) &&& bitV i = 0) == decide (nI R >>> (nI i &&& 31) &&& 1 = nI C >>> (nI i &&& 31) &&& 1))) = true := by decide +kernel
theorem bit_eq (i : Nat) (hi : i < 3) (R : Nat) (hR : R < 8) (C : Nat) (hC : C < 8) (Ci : Nat) (hCi : Ci < 8) (h : Ci / 2 ^ i = C / 2 ^ i) : ((nI R ^^^ nI Ci) &&& bitV i = 0) ↔ (nI R >>> (nI i &&& 31) &&& 1 = nI C >>> (nI i &&& 31) &&& 1) := by
  have h1 := List.all_eq_true.mp (List.all_eq_true.mp (List.all_eq_true.mp (List.all_eq_true.mp bit_eqB i (List.mem_range.mpr hi)) R (List.mem_range.mpr hR)) C (List.mem_range.mpr hC)) Ci (List.mem_range.mpr hCi)
  rw [h, beq_self_eq_true, Bool.not_true, Bool.false_or, beq_iff_eq] at h1
  exact decide_eq_decide.mp h1
theorem bit_flipB : ((List.range 3).all fun i => (List.range 8).all fun C => (List.range 8).all fun Ci => !(Ci / 2 ^ i == C / 2 ^ i) || (decide ((Ci ^^^ 2 ^ i) < 8) && (decide ((Ci ^^^ 2 ^ i) / 2 ^ (i + 1) = C / 2 ^ (i + 1)) && decide (nI Ci ^^^ bitV i = nI (Ci ^^^ 2 ^ i))))) = true := by decide +kernel
theorem bit_flip (i : Nat) (hi : i < 3) (C : Nat) (hC : C < 8) (Ci : Nat) (hCi : Ci < 8) (h : Ci / 2 ^ i = C / 2 ^ i) : (Ci ^^^ 2 ^ i) < 8 ∧ (Ci ^^^ 2 ^ i) / 2 ^ (i + 1) = C / 2 ^ (i + 1) ∧ nI Ci ^^^ bitV i = nI (Ci ^^^ 2 ^ i) := by
  have h1 := List.all_eq_true.mp (List.all_eq_true.mp (List.all_eq_true.mp bit_flipB i (List.mem_range.mpr hi)) C (List.mem_range.mpr hC)) Ci (List.mem_range.mpr hCi)
  rw [h, beq_self_eq_true, Bool.not_true, Bool.false_or, Bool.and_eq_true, Bool.and_eq_true] at h1
  exact ⟨of_decide_eq_true h1.1, of_decide_eq_true h1.2.1, of_decide_eq_true h1.2.2⟩
theorem bit_keep : ∀ i, i < 3 → ∀ C, C < 8 → ∀ Ci, Ci < 8 → Ci / 2 ^ i = C / 2 ^ i → Ci / 2 ^ (i + 1) = C / 2 ^ (i + 1) := by decide +kernel
theorem settleN_out (c : Tb) (raw : Int32) {x k : Nat} (h1 : ¬ x = 1) (h2 : ¬ (x = 0 ∧ k = 6)) : ∀ i, settleN c raw i x k = c x k := by
  intro i
  induction i with
  | zero => rfl
  | succ i ih =>
    rw [settleN_s, ← ih]
    unfold settle1
    generalize (if (raw ^^^ settleN c raw i 0 6) &&& bitV i = 0 then (0 : Int32) else settleN c raw i 1 i + 1) = nn
    unfold settleF
    have hx : ∀ (r : Tb) (j : Nat) (v : Int32), up2 r 1 j v x k = r x k := fun r j v => by rw [up2_row h1]
    have h6 : ∀ (r : Tb) (v : Int32), up2 r 0 6 v x k = r x k := fun r v => by
      by_cases hx0 : x = 0
      · subst hx0
        exact up2_ne (fun q => h2 ⟨rfl, q⟩)
      · rw [up2_row hx0]
    split
    · rw [hx]
    · rw [hx, h6, hx]
theorem lines_sim {c r : Tb} {b h C R : Nat} (hR : R < 8) (hC : C < 8) (hc6 : c 0 6 = nI C) (h2 : r 1 (b + 2) = nI C) (h1 : 1 ≤ h) (h16 : h ≤ 16) (h4 : c 0 4 = nI h) (h0 : r 1 (b + 0) = nI h) (hrun : ∀ j, j < 3 → c 1 j = r 1 (b + 3 + j)) : ∀ i, i ≤ 3 →
    (∃ Ci, Ci < 8 ∧ Ci / 2 ^ i = C / 2 ^ i ∧ (linesM r b (nI R) i).2 = nI Ci ∧ settleN c (nI R) i 0 6 = nI Ci) ∧ (∀ j, j < 3 → settleN c (nI R) i 1 j = (linesM r b (nI R) i).1 1 (b + 3 + j)) := by
  intro i
  induction i with
  | zero => intro _; exact ⟨⟨C, hC, rfl, h2, hc6⟩, hrun⟩
  | succ i ih =>
    intro hi
    obtain ⟨⟨Ci, a1, a2, a3, a4⟩, a5⟩ := ih (by omega)
    rw [settleN_s, linesM_s, h2]
    have c4 : settleN c (nI R) i 0 4 = nI h := by rw [settleN_out c _ (by decide) (by decide), h4]
    have g0 : (linesM r b (nI R) i).1 1 (b + 0) = nI h := by rw [linesM_out (by omega) (Or.inl (by omega)), h0]
    have e5 := a5 i (by omega)
    generalize settleN c (nI R) i = c' at a4 a5 c4 e5 ⊢
    generalize linesM r b (nI R) i = x at a3 a5 g0 e5 ⊢
    have hbit := bit_eq i (by omega) R hR C hC Ci a1 a2
    unfold settle1 settleF lineM
    rw [a4, c4, g0]
    by_cases hA : (nI R ^^^ nI Ci) &&& bitV i = 0
    · have z : (0 : Int32) < nI h := (nI_ltI (a := 0) (by decide) (by omega)).mpr (by omega)
      rw [if_pos hA, if_pos z, if_pos (hbit.mp hA)]
      refine ⟨⟨Ci, a1, bit_keep i (by omega) C hC Ci a1 a2, a3, by rw [up2_row (by decide)]; exact a4⟩, fun j hj => ?_⟩
      dsimp only
      by_cases hji : j = i
      · subst hji; rw [up2_eq, up2_eq]
      · rw [up2_ne hji, up2_ne (by omega)]; exact a5 j hj
    · rw [if_neg hA, if_neg (fun q => hA (hbit.mpr q)), e5]
      by_cases hB : x.1 1 (b + 3 + i) + 1 < nI h
      · rw [if_pos hB, if_neg (Int32.not_le.mpr hB)]
        refine ⟨⟨Ci, a1, bit_keep i (by omega) C hC Ci a1 a2, a3, by rw [up2_row (by decide)]; exact a4⟩, fun j hj => ?_⟩
        dsimp only
        by_cases hji : j = i
        · subst hji; rw [up2_eq, up2_eq]
        · rw [up2_ne hji, up2_ne (by omega)]; exact a5 j hj
      · rw [if_neg hB, if_pos (Int32.not_lt.mp hB)]
        obtain ⟨f1, f2, f3⟩ := bit_flip i (by omega) C hC Ci a1 a2
        refine ⟨⟨_, f1, f2, by show x.2 ^^^ bitV i = _; rw [a3]; exact f3, by rw [up2_row (by decide), up2_eq]; exact f3⟩, fun j hj => ?_⟩
        dsimp only
        by_cases hji : j = i
        · subst hji; rw [up2_eq, up2_eq]
        · rw [up2_ne hji, up2_row (by decide), up2_ne hji, up2_ne (by omega), up2_ne (by omega)]; exact a5 j hj
