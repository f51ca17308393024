/-! ### the acts -/
theorem Sim.step {tw : Int32} {tp : Nat → Int32} {t ap : Int32} {r1 r2 : Tb} {I : Nat → Option Img} {r r' : Tb} {T' : Nat} {x : BS} (hS : Sim tw tp t ap r1 r2 I r) (hrow : ∀ k, k ≠ 0 → k ≠ 1 → r' k = r k) (h0 : ∀ k, k ≠ 4 → k ≠ 5 → r' 0 k = r 0 k) (hB : BX T' x r') : Sim tw tp x.1 x.2.1 x.2.2.1 x.2.2.2 I r' := by
  obtain ⟨⟨w, hw, etw, e8, htape⟩, _, e6, himg⟩ := hS
  refine ⟨⟨w, hw, etw, by rw [h0 8 (by decide) (by decide)]; exact e8, fun k hk => by rw [hrow 5 (by decide) (by decide)]; exact htape k hk⟩, ⟨T', hB.1, hB.2⟩, by rw [h0 6 (by decide) (by decide)]; exact e6, fun K hK i hi => ?_⟩
  rw [hrow 2 (by decide) (by decide), hrow 3 (by decide) (by decide), hrow 4 (by decide) (by decide)]
  exact himg K hK i hi
theorem Sim.bx {tw : Int32} {tp : Nat → Int32} {t ap : Int32} {r1 r2 : Tb} {I : Nat → Option Img} {r : Tb} (hS : Sim tw tp t ap r1 r2 I r) : ∃ T, BX T (t, ap, r1, r2) r := by
  obtain ⟨_, ⟨T, et, hB⟩, _⟩ := hS
  exact ⟨T, et, hB⟩
theorem line_no {f : Int32} (h : f < 0 ∨ 7 < f) : lineV f = 0 := by
  unfold lineV
  by_cases h0 : f < 0
  · rw [if_pos h0]
  · rw [if_neg h0, if_pos (h.resolve_left h0)]
theorem line_yes {f : Int32} (h : ¬ (f < 0 ∨ 7 < f)) : ¬ lineV f = 0 := by
  unfold lineV
  rw [if_neg (fun q => h (Or.inl q)), if_neg (fun q => h (Or.inr q))]
  decide
theorem line_nat {f : Int32} (h : ¬ (f < 0 ∨ 7 < f)) : ∃ F, F < 8 ∧ f = nI F := by
  obtain ⟨F, hF, rfl⟩ := nI_of (fun q => h (Or.inl q))
  refine ⟨F, Nat.not_le.mp (fun q => h (Or.inr ((nI_ltI (a := 7) (by decide) hF).mpr (by omega)))), rfl⟩
def Fr (r r' : Tb) : Prop := (∀ k, k ≠ 0 → k ≠ 1 → r' k = r k) ∧ ∀ k, k ≠ 4 → k ≠ 5 → r' 0 k = r 0 k
theorem tick_core {x : BS} {r : Tb} {T : Nat} (hB : BX T x r) (n f g : Int32) : tickV n f g x.1 = tickMV r n f g ∧ (∃ T', BX T' (tickB n f g x) (tickM r n f g)) ∧ Fr r (tickM r n f g) := by
  have hT := hB.2.1
  have ex : x.1 = nI T := hB.1
  have e4 : r 0 4 = nI T := hB.2.2.1
  have bad : tickV n f g x.1 = -1 → tickMV r n f g = -1 → tickB n f g x = x → tickM r n f g = r → tickV n f g x.1 = tickMV r n f g ∧ (∃ T', BX T' (tickB n f g x) (tickM r n f g)) ∧ Fr r (tickM r n f g) := fun e1 e2 e3 e5 => by
    rw [e1, e2, e3, e5]
    exact ⟨rfl, ⟨T, hB⟩, fun _ _ _ => rfl, fun _ _ _ => rfl⟩
  by_cases h1 : n < 0
  · exact bad (by unfold tickV; rw [if_pos h1]) (by unfold tickMV; rw [if_pos h1]) (by unfold tickB; rw [if_pos h1]) (by unfold tickM; rw [if_pos h1])
  by_cases h2 : 2000 < n
  · exact bad (by unfold tickV; rw [if_neg h1, if_pos h2]) (by unfold tickMV; rw [if_neg h1, if_pos h2]) (by unfold tickB; rw [if_neg h1, if_pos h2]) (by unfold tickM; rw [if_neg h1, if_pos h2])
  obtain ⟨N, hN, rfl⟩ := nI_of h1
  have hN2 : N ≤ 2000 := Nat.not_lt.mp (fun q => h2 ((nI_ltI (a := 2000) (by decide) hN).mpr q))
  have c1 : nI N ≤ 1000000 - nI T ↔ T + N ≤ 1000000 := by
    rw [show (1000000 : Int32) = nI 1000000 from rfl, pk_sub hT, nI_leI hN (by omega)]
    omega
  have c2 : nI T + nI N ≤ 1000000 ↔ T + N ≤ 1000000 := by
    rw [nI_add, show (1000000 : Int32) = nI 1000000 from rfl, nI_leI (by omega) (by omega)]
  by_cases hf : f < 0 ∨ 7 < f
  · have l := line_no hf
    have m1 : tickMV r (nI N) f g = -1 := by
      unfold tickMV
      rw [if_neg h1, if_neg h2]
      by_cases q : f < 0
      · rw [if_pos q]
      · rw [if_neg q, if_pos (hf.resolve_left q)]
    have m2 : tickM r (nI N) f g = r := by
      unfold tickM
      rw [if_neg h1, if_neg h2]
      by_cases q : f < 0
      · rw [if_pos q]
      · rw [if_neg q, if_pos (hf.resolve_left q)]
    refine bad ?_ m1 ?_ m2
    · unfold tickV
      rw [if_neg h1, if_neg h2, if_pos l]
      split <;> rfl
    · unfold tickB
      rw [if_neg h1, if_neg h2, if_pos l]
      split <;> rfl
  by_cases hg : g < 0 ∨ 7 < g
  · have l := line_no hg
    have m1 : tickMV r (nI N) f g = -1 := by
      unfold tickMV
      rw [if_neg h1, if_neg h2, if_neg (fun q => hf (Or.inl q)), if_neg (fun q => hf (Or.inr q))]
      by_cases q : g < 0
      · rw [if_pos q]
      · rw [if_neg q, if_pos (hg.resolve_left q)]
    have m2 : tickM r (nI N) f g = r := by
      unfold tickM
      rw [if_neg h1, if_neg h2, if_neg (fun q => hf (Or.inl q)), if_neg (fun q => hf (Or.inr q))]
      by_cases q : g < 0
      · rw [if_pos q]
      · rw [if_neg q, if_pos (hg.resolve_left q)]
    refine bad ?_ m1 ?_ m2
    · unfold tickV
      rw [if_neg h1, if_neg h2, if_neg (line_yes hf), if_pos l]
      split <;> rfl
    · unfold tickB
      rw [if_neg h1, if_neg h2, if_neg (line_yes hf), if_pos l]
      split <;> rfl
  have lf := line_yes hf
  have lg := line_yes hg
  have v1 : tickV (nI N) f g x.1 = if T + N ≤ 1000000 then nI N else -1 := by
    unfold tickV
    rw [if_neg h1, if_neg h2, if_neg lf, if_neg lg, ex]
    by_cases q : T + N ≤ 1000000
    · rw [if_pos q, if_pos (c1.mpr q)]
    · rw [if_neg q, if_neg (fun z => q (c1.mp z))]
  have v2 : tickMV r (nI N) f g = if T + N ≤ 1000000 then nI N else -1 := by
    unfold tickMV
    rw [if_neg h1, if_neg h2, if_neg (fun q => hf (Or.inl q)), if_neg (fun q => hf (Or.inr q)), if_neg (fun q => hg (Or.inl q)), if_neg (fun q => hg (Or.inr q)), e4]
    by_cases q : T + N ≤ 1000000
    · rw [if_pos q, if_pos (c2.mpr q)]
    · rw [if_neg q, if_neg (fun z => q (c2.mp z))]
  refine ⟨by rw [v1, v2], ?_⟩
  by_cases q : T + N ≤ 1000000
  · have b1 : tickB (nI N) f g x = stepsB x f g N := by
      unfold tickB
      rw [if_neg h1, if_neg h2, ex, if_pos (c1.mpr q), if_neg lf, if_neg lg, nI_clamp hN]
    have b2 : tickM r (nI N) f g = stepsM r f g N := by
      unfold tickM
      rw [if_neg h1, if_neg h2, if_neg (fun q => hf (Or.inl q)), if_neg (fun q => hf (Or.inr q)), if_neg (fun q => hg (Or.inl q)), if_neg (fun q => hg (Or.inr q)), e4, if_pos (c2.mpr q), nI_clamp hN]
    obtain ⟨F, hF, rfl⟩ := line_nat hf
    obtain ⟨G', hG, rfl⟩ := line_nat hg
    rw [b1, b2]
    obtain ⟨i1, i2, i3⟩ := steps_sim hF hG hB N q
    exact ⟨⟨T + N, i1⟩, i2, i3⟩
  · have b1 : tickB (nI N) f g x = x := by
      unfold tickB
      rw [if_neg h1, if_neg h2, ex, if_neg (fun z => q (c1.mp z))]
    have b2 : tickM r (nI N) f g = r := by
      unfold tickM
      rw [if_neg h1, if_neg h2, if_neg (fun q => hf (Or.inl q)), if_neg (fun q => hf (Or.inr q)), if_neg (fun q => hg (Or.inl q)), if_neg (fun q => hg (Or.inr q)), e4, if_neg (fun z => q (c2.mp z))]
    rw [b1, b2]
    exact ⟨⟨T, hB⟩, fun _ _ _ => rfl, fun _ _ _ => rfl⟩
/-! play -/
theorem byteV_val {w k : Nat} {tp : Nat → Int32} (hw : w ≤ 500) (hk : k < 4 * w) : byteV (nI w) tp (nI k) = byteN tp k := by
  have e1 : nI k / 4 = nI (k / 4) := pk_div (d := 4) (by omega) (by decide) (by decide)
  have e2 : rem32 (nI k) 4 = nI (k % 4) := pk_rem (d := 4) (by omega) (by decide) (by decide)
  unfold byteV byteN
  rw [if_neg (nI_pos (by omega)), e1, if_pos ((nI_ltI (by omega) (by omega)).mpr (by omega)), e2, nI_clamp (by omega)]
theorem byteN_nat (tp : Nat → Int32) (k : Nat) : ∃ v, v < 256 ∧ byteN tp k = nI v := by
  unfold byteN
  exact pk_andE _ 8 (by decide)
theorem stopB : ((List.range 256).all fun v => decide (nI v &&& 192 = 0) == decide (v < 64)) = true := by decide +kernel
theorem stop_eq {v : Nat} (hv : v < 256) : nI v &&& 192 = 0 ↔ v < 64 := by
  have h1 := List.all_eq_true.mp stopB v (List.mem_range.mpr hv)
  rw [beq_iff_eq] at h1
  exact decide_eq_decide.mp h1
theorem splitB : ((List.range 64).all fun v => decide (nI v &&& 7 = nI (v % 8)) && decide (nI v >>> ((3 : Int32) &&& 31) &&& 7 = nI (v / 8))) = true := by decide +kernel
theorem split_eq {v : Nat} (hv : v < 64) : nI v &&& 7 = nI (v % 8) ∧ nI v >>> ((3 : Int32) &&& 31) &&& 7 = nI (v / 8) := by
  have h1 := List.all_eq_true.mp splitB v (List.mem_range.mpr hv)
  rw [Bool.and_eq_true] at h1
  exact ⟨of_decide_eq_true h1.1, of_decide_eq_true h1.2⟩
theorem play_core {w N : Nat} {tp : Nat → Int32} (hw : w ≤ 500) (hN : N ≤ 4 * w) : ∀ (fuel k : Nat) (x : BS) (r : Tb) (T : Nat), N < k + fuel → k ≤ N → (∀ j, j < 4 * w → r 5 j = byteN tp j) → BX T x r → (playF (nI w) tp (nI N) fuel k x).1 = (playG (nI N) fuel k r).1 ∧ (∃ T', BX T' (playF (nI w) tp (nI N) fuel k x).2 (playG (nI N) fuel k r).2) ∧ Fr r (playG (nI N) fuel k r).2 := by
  intro fuel
  induction fuel with
  | zero => intro k x r T h1 h2; omega
  | succ fuel ih =>
    intro k x r T h1 h2 hr hB
    have hT := hB.2.1
    have ex : x.1 = nI T := hB.1
    have e4 : r 0 4 = nI T := hB.2.2.1
    have stop : playF (nI w) tp (nI N) (fuel + 1) k x = (k, x) → playG (nI N) (fuel + 1) k r = (k, r) → (playF (nI w) tp (nI N) (fuel + 1) k x).1 = (playG (nI N) (fuel + 1) k r).1 ∧ (∃ T', BX T' (playF (nI w) tp (nI N) (fuel + 1) k x).2 (playG (nI N) (fuel + 1) k r).2) ∧ Fr r (playG (nI N) (fuel + 1) k r).2 := fun e1 e2 => by
      rw [e1, e2]
      exact ⟨rfl, ⟨T, hB⟩, fun _ _ _ => rfl, fun _ _ _ => rfl⟩
    by_cases hk : N ≤ k
    · have hk' : nI N ≤ nI k := (nI_leI (by omega) (by omega)).mpr hk
      exact stop (by rw [playF_s, if_pos hk']) (by rw [playG_s, if_pos hk'])
    have hk' : ¬ nI N ≤ nI k := fun q => hk ((nI_leI (by omega) (by omega)).mp q)
    obtain ⟨v, hv, ev⟩ := byteN_nat tp k
    have bv : byteV (nI w) tp (nI k) = nI v := (byteV_val hw (by omega)).trans ev
    have b5 : r 5 k = nI v := (hr k (by omega)).trans ev
    by_cases hv6 : v < 64
    · have c1 : nI v &&& 192 = 0 := (stop_eq hv).mpr hv6
      have c2 : ¬ 64 ≤ nI v := fun q => by have := (nI_leI (a := 64) (by decide) (by omega)).mp q; omega
      by_cases hm : T = 1000000
      · have hm1 : 1000000 ≤ nI T := by rw [hm]; decide
        exact stop (by rw [playF_s, if_neg hk', ex, if_pos hm1]) (by rw [playG_s, if_neg hk', b5, if_neg c2, e4, if_pos hm1])
      · have hm1 : ¬ 1000000 ≤ nI T := fun q => by have := (nI_leI (a := 1000000) (by decide) (by omega)).mp q; omega
        obtain ⟨s1, s2⟩ := split_eq hv6
        have F1 : playF (nI w) tp (nI N) (fuel + 1) k x = playF (nI w) tp (nI N) fuel (k + 1) (stepB x (nI (v % 8)) (nI (v / 8))) := by rw [playF_s, if_neg hk', ex, if_neg hm1, bv, if_pos c1, s1, s2]
        have F2 : playG (nI N) (fuel + 1) k r = playG (nI N) fuel (k + 1) (oneM r (nI (v % 8)) (nI (v / 8))) := by rw [playG_s, if_neg hk', b5, if_neg c2, e4, if_neg hm1, s1, s2]
        rw [F1, F2]
        have hB2 := one_sim (R1 := v % 8) (R2 := v / 8) (by omega) (by omega) (by omega) hB
        obtain ⟨i1, i2, i3⟩ := ih (k + 1) _ _ (T + 1) (by omega) (by omega) (fun j hj => by rw [oneM_row (by decide) (by decide)]; exact hr j hj) hB2
        exact ⟨i1, i2, fun q q0 q1 => (i3.1 q q0 q1).trans (oneM_row q0 q1), fun q q4 q5 => (i3.2 q q4 q5).trans (oneM_0 q4 q5)⟩
    · have c1 : ¬ nI v &&& 192 = 0 := fun q => hv6 ((stop_eq hv).mp q)
      have c2 : 64 ≤ nI v := (nI_leI (a := 64) (by decide) (by omega)).mpr (by omega)
      refine stop ?_ (by rw [playG_s, if_neg hk', b5, if_pos c2])
      rw [playF_s, if_neg hk', bv, if_neg c1]
      split <;> rfl
