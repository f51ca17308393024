/-! ### the teeth -/
theorem streak_iff {c : Tb} {g : Nat → Int32} {n T : Nat} (hT4 : 4 ≤ T) (hT : T ≤ 64) (hTn : T < n) (hn : n ≤ 1000000) (hSk : Sk c g n) : ¬ c 3 4 < nI T ↔ ∀ k, k < T → srt g n k = 1 := by
  rcases hSk with ⟨hs, hz⟩ | ⟨q, hq1, ⟨hs, hr⟩ | ⟨hs, hr⟩⟩
  · rw [hs]
    constructor
    · intro h
      exact absurd ((nI_ltI (a := 0) (by decide) (by omega)).mpr (by omega)) h
    · intro h
      have h0 := h 0 (by omega)
      rw [hz.resolve_left (by omega)] at h0
      exact absurd h0 (by decide)
  · have hqn := hr.1
    rw [hs]
    constructor
    · intro h k hk
      have : T ≤ q := Nat.not_lt.mp (fun z => h ((nI_ltI (by omega) (by omega)).mpr z))
      exact hr.2.1 k (by omega) (by omega)
    · intro h z
      have hqT := (nI_ltI (by omega) (by omega)).mp z
      exact hr.2.2 (by omega) (by omega) (h q hqT)
  · have hqn := hr.1
    rw [hs]
    constructor
    · intro h
      exfalso
      apply h
      refine Int32.lt_of_lt_of_le (Int32.not_le.mp (neg_lt hq1 (by omega))) ?_
      exact Int32.not_lt.mp (nI_pos (by omega))
    · intro h
      have h0 := h 0 (by omega)
      rw [hr.2.1 0 (by omega) (by decide)] at h0
      exact absurd h0 (by decide)
def full (g : Nat → Int32) (n T E : Nat) : Prop := 0 < E ∧ n - E = T ∧ ∀ k, k < T → srt g n k = 1
theorem learn_full {x : Tb} {g : Nat → Int32} {n T E : Nat} (hT4 : 4 ≤ T) (hT : T ≤ 64) (hn : n ≤ 1000000) (hEn : E ≤ n) (e33 : x 3 3 = nI n) (e72 : x 7 2 = nI E) (hSk : Sk x g n) (h : full g n T E) : learnV x (nI T) = up2 (addTurnV x (nI T)) 7 2 (x 3 3) := by
  obtain ⟨h1, h2, h3⟩ := h
  unfold learnV
  rw [if_neg (by rw [e72]; exact nI_npos h1 (by omega)), if_pos (by rw [e33, e72, pk_sub hEn, h2]), if_neg ((streak_iff hT4 hT (by omega) hn hSk).mpr h3)]
theorem learn_not {x : Tb} {g : Nat → Int32} {n T E : Nat} (hT4 : 4 ≤ T) (hT : T ≤ 64) (hn : n ≤ 1000000) (hEn : E ≤ n) (e33 : x 3 3 = nI n) (e72 : x 7 2 = nI E) (hSk : Sk x g n) (h : ¬ full g n T E) : learnV x (nI T) = up2 x 7 2 (x 3 3) := by
  unfold learnV
  by_cases h1 : 0 < E
  · rw [if_neg (by rw [e72]; exact nI_npos h1 (by omega))]
    by_cases h2 : n - E = T
    · rw [if_pos (by rw [e33, e72, pk_sub hEn, h2])]
      have h3 : x 3 4 < nI T := by
        apply Int32.not_le.mp
        intro z
        exact h ⟨h1, h2, (streak_iff hT4 hT (by omega) hn hSk).mp (Int32.not_lt.mpr z)⟩
      rw [if_pos h3]
    · rw [if_neg (by rw [e33, e72, pk_sub hEn]; exact fun z => h2 ((nI_eq (by omega) (by omega)).mp z))]
  · rw [if_pos (by rw [e72, show E = 0 by omega]; decide)]
theorem teeth_full {r : Tb} {b t n T Z E : Nat} {c : Tb} (hT4 : 4 ≤ T) (hT : T ≤ 64) (hn : n ≤ 1000000) (ht : t ≤ 1000000) (hZe : Ze c (G r b) t n Z E) (h : full (G r b) n T E) : teethM r b n T = up2 (teethL r b n T T) 1 (b + 17) (r 1 (b + 17) + 1) := by
  obtain ⟨a1, a2, a3, a4, a5, a6⟩ := hZe
  obtain ⟨h1, h2, h3⟩ := h
  have a1 : r 1 (b + 16) = nI Z := a1
  have hat : ∀ k, atM r b n k = G r b (320 + (n - 1 - k) % 300) := fun k => by unfold atM G; rw [Nat.add_assoc]
  refine (teeth_all ?_ (by omega) ?_ ?_).symm
  · rw [a1]
    exact nI_ne0 (by omega) (by omega)
  · rw [a1, hat]
    exact (a6 (n - 1 - T) (by omega) (by omega)).mpr (by omega)
  · intro k hk
    refine ⟨by rw [Nat.add_assoc]; exact h3 k hk, ?_⟩
    rw [a1, hat]
    exact Int32.not_le.mp (fun z => by have := (a6 (n - 1 - k) (by omega) (by omega)).mp z; omega)
theorem teeth_none {r : Tb} {b t n T Z E : Nat} {c : Tb} (hT4 : 4 ≤ T) (hT : T ≤ 64) (hn : n ≤ 1000000) (ht : t ≤ 1000000) (hZe : Ze c (G r b) t n Z E) (h : ¬ full (G r b) n T E) : teethM r b n T = r := by
  obtain ⟨a1, a2, a3, a4, a5, a6⟩ := hZe
  have a1 : r 1 (b + 16) = nI Z := a1
  have hat : ∀ k, atM r b n k = G r b (320 + (n - 1 - k) % 300) := fun k => by unfold atM G; rw [Nat.add_assoc]
  by_cases hZ : r 1 (b + 16) = 0
  · exact (teeth_early (Or.inl hZ)).symm
  · by_cases hTn : T < n
    · by_cases hT2 : atM r b n T ≤ r 1 (b + 16)
      · refine (teeth_not (fun hall => h ?_)).symm
        rw [a1, hat] at hT2
        have e1 := (a6 (n - 1 - T) (by omega) (by omega)).mp hT2
        have e2 := (hall (T - 1) (by omega)).2
        rw [a1, hat] at e2
        have e3 : ¬ n - 1 - (T - 1) < E := fun z => Int32.not_le.mpr e2 ((a6 (n - 1 - (T - 1)) (by omega) (by omega)).mpr z)
        refine ⟨by omega, by omega, fun k hk => ?_⟩
        have := (hall k hk).1
        rw [Nat.add_assoc] at this
        exact this
      · exact (teeth_early (Or.inr (Or.inr hT2))).symm
    · exact (teeth_early (Or.inr (Or.inl hTn))).symm
theorem zero_sim {c r : Tb} {b t h T C n S Z E : Nat} (ht1 : 1 ≤ t) (ht : t ≤ 1000000) (hn : n ≤ t) (hM : Md c (G r b) t h T C n S Z E) (h4 : r 0 4 = nI t) : Md (zeroV c) (G (zeroM r b n T) b) t h T C n S t n := by
  obtain ⟨hSc, hRg, hLg, hZe, hSk, hTe, hRn, hMo⟩ := hM
  obtain ⟨e4, e5, e6, e7, e8, e9, e33, e12, e13, e14, e10, e11, e71⟩ := hSc
  obtain ⟨a1, ⟨hT4, hT, eT⟩, a3, a4, a5, a6, a7, a8⟩ := hRg
  have ec5 : c 0 5 = nI T := e5.trans eT
  have ec3 : c 3 3 = nI n := e33.trans hLg.1
  have hEn : E ≤ n := hZe.2.2.2.1
  have ec7 : c 7 2 = nI E := hZe.2.2.1
  have gzA : G (zA r b) b = zAG (G r b) := G_zA r b
  have hZe' : Ze c (G (zA r b) b) t n Z E := hZe.of rfl (by rw [gzA]; exact zAG_out (by omega)) (fun j h1 h2 => by rw [gzA]; exact zAG_out (by omega)) (Nat.le_refl _)
  have hsr : ∀ k, srt (G (zA r b) b) n k = srt (G r b) n k := fun k => srt.of (fun j h1 h2 => by rw [gzA]; exact zAG_out (by omega)) k
  -- the teeth, both sides
  obtain ⟨y, gt, hy, hgt, hy0, hyr, hy72, hy71, hy8, hg17, hgT, hgo⟩ : ∃ (y : Tb) (gt : Nat → Int32), learnV (up2 c 0 14 (c 0 14 + 1)) (c 0 5) = y ∧ G (teethM (zA r b) b n T) b = gt ∧ (∀ k, y 0 k = up2 c 0 14 (c 0 14 + 1) 0 k) ∧ (∀ k, ¬ k = 0 → ¬ k = 7 → ¬ k = 8 → y k = c k) ∧ y 7 2 = nI n ∧ y 7 1 = gt 17 ∧ (∀ k, k < 64 → y 8 k = gt (1440 + k)) ∧ True ∧ True ∧ (∀ j, j < 1440 → j ≠ 17 → gt j = zAG (G r b) j) := by
    have hx3 : up2 c 0 14 (c 0 14 + 1) 3 3 = nI n := ec3
    have hx7 : up2 c 0 14 (c 0 14 + 1) 7 2 = nI E := ec7
    have hxS : Sk (up2 c 0 14 (c 0 14 + 1)) (G (zA r b) b) n := hSk.of rfl (fun j h1 h2 => by rw [gzA]; exact zAG_out (by omega))
    have hout : ∀ j, j < 1440 → j ≠ 17 → G (teethM (zA r b) b n T) b j = zAG (G r b) j := fun j h1 h2 => by
      show teethM (zA r b) b n T 1 (b + j) = _
      rw [teethM_out (by omega) (by omega), ← gzA]
      rfl
    by_cases hf : full (G (zA r b) b) n T E
    · have e1 := learn_full hT4 hT (by omega) hEn hx3 hx7 hxS hf
      have e2 := teeth_full hT4 hT (by omega) ht hZe' hf
      have hTn : T < n := by obtain ⟨f1, f2, _⟩ := hf; omega
      refine ⟨_, _, rfl, rfl, ?_, ?_, ?_, ?_, ?_, trivial, trivial, hout⟩
      · intro k; rw [ec5, e1, up2_row (by decide), addTurnV_row _ _ (by decide) (by decide)]
      · intro k k0 k7 k8; rw [ec5, e1, up2_row k7, addTurnV_row _ _ k7 k8, up2_row k0]
      · rw [ec5, e1, up2_eq]; exact ec3
      · rw [ec5, e1, e2, G_up, pk_us, up2_ne (by decide)]
        show c 7 1 + 1 = zA r b 1 (b + 17) + 1
        rw [show zA r b 1 (b + 17) = G (zA r b) b 17 from rfl, gzA, zAG_out (by omega), e71]
      · intro k hk
        rw [ec5, e1, e2, G_up, pk_un (by omega), up2_row (by decide)]
        have hs1 : ∀ j, j < 300 → j < n → up2 c 0 14 (c 0 14 + 1) 5 j = G (zA r b) b (320 + j) := fun j h1 h2 => by
          rw [gzA, zAG_out (by omega)]
          exact (hLg.2 j h1 h2).2.1
        have hc8 : up2 c 0 14 (c 0 14 + 1) 8 k = G (zA r b) b (1440 + k) := by
          rw [gzA, zAG_out (by omega)]
          exact hTe k hk
        have hA : addTurnV (up2 c 0 14 (c 0 14 + 1)) (nI T) 8 k = if k < 64 ∧ nI k < nI T then up2 c 0 14 (c 0 14 + 1) 8 k + toothD (up2 c 0 14 (c 0 14 + 1)) (nI T) k else up2 c 0 14 (c 0 14 + 1) 8 k := rfl
        have hB : G (teethL (zA r b) b n T T) b (1440 + k) = if b + 1440 ≤ b + (1440 + k) ∧ b + (1440 + k) < b + 1440 + T then zA r b 1 (b + (1440 + k)) + (atM (zA r b) b n (T - 1 - (b + (1440 + k) - (b + 1440))) - atM (zA r b) b n (T - (b + (1440 + k) - (b + 1440)))) else zA r b 1 (b + (1440 + k)) := rfl
        rw [hA, hB, show b + (1440 + k) - (b + 1440) = k by omega]
        by_cases hkT : k < T
        · rw [if_pos ⟨hk, (nI_ltI (by omega) (by omega)).mpr hkT⟩, if_pos (by omega), hc8]
          have m1 : (n - 1 - (T - 1 - k)) % 300 ≤ n - 1 - (T - 1 - k) := Nat.mod_le _ _
          have m2 : (n - 1 - (T - k)) % 300 ≤ n - 1 - (T - k) := Nat.mod_le _ _
          have d : toothD (up2 c 0 14 (c 0 14 + 1)) (nI T) k = atM (zA r b) b n (T - 1 - k) - atM (zA r b) b n (T - k) := by
            unfold toothD
            rw [hx3, sub1i hkT, nI_1, show T - 1 - k + 1 = T - k by omega, slot_val (by omega) (by omega), slot_val (by omega) (by omega), hs1 _ (Nat.mod_lt _ (by decide)) (by omega), hs1 _ (Nat.mod_lt _ (by decide)) (by omega)]
            unfold atM G
            rw [Nat.add_assoc, Nat.add_assoc]
          rw [d]
          rfl
        · rw [if_neg (fun q => hkT ((nI_ltI (by omega) (by omega)).mp q.2)), if_neg (by omega), hc8]
          rfl
    · have e1 := learn_not hT4 hT (by omega) hEn hx3 hx7 hxS hf
      have e2 := teeth_none hT4 hT (by omega) ht hZe' hf
      refine ⟨_, _, rfl, rfl, ?_, ?_, ?_, ?_, ?_, trivial, trivial, hout⟩
      · intro k; rw [ec5, e1, up2_row (by decide)]
      · intro k k0 k7 k8; rw [ec5, e1, up2_row k7, up2_row k0]
      · rw [ec5, e1, up2_eq]; exact ec3
      · rw [ec5, e1, e2, up2_ne (by decide), gzA, zAG_out (by omega)]
        exact e71
      · intro k hk
        rw [ec5, e1, e2, up2_row (by decide), gzA, zAG_out (by omega)]
        exact hTe k hk
  have gE : G (zeroM r b n T) b = upd gt 16 (nI t) := by
    unfold zeroM
    rw [G_up, hgt, h4]
  have cE : zeroV c = heedV y := by unfold zeroV; rw [hy]
  have gj : ∀ j, j < 1440 → j ≠ 16 → j ≠ 17 → G (zeroM r b n T) b j = zAG (G r b) j := fun j h1 h2 h3 => by rw [gE, pk_un h2, hgo j h1 h3]
  have y0 : ∀ k, k ≠ 14 → y 0 k = c 0 k := fun k hk => by rw [hy0, up2_ne hk]
  obtain ⟨⟨k7, k8, k9, k10, k11, k13⟩, kh, kb6, kb7, kb8, kb14⟩ := heed_sim (x := y) (g := G r b) ht hT4 hT eT ((y0 5 (by decide)).trans e5) ((y0 7 (by decide)).trans e7) ((y0 8 (by decide)).trans e8) ((y0 9 (by decide)).trans e9) ((y0 10 (by decide)).trans e10) ((y0 11 (by decide)).trans e11) ((y0 13 (by decide)).trans e13) a4 a5 a6 a7 a8
  have hrow : ∀ k, ¬ k = 0 → ¬ k = 7 → ¬ k = 8 → zeroV c k = c k := fun k h0 h7 h8 => by rw [cE, heedV_row _ h0, hyr k h0 h7 h8]
  rw [show zeroV c = heedV y from cE] at hrow ⊢
  refine ⟨⟨?_, ?_, ?_, ?_, ?_, ?_, ?_, ?_, ?_, ?_, ?_, ?_, ?_⟩, ⟨?_, ?_, ?_, ?_, ?_, ?_, ?_, ?_⟩, ?_, ?_, ?_, ?_, ?_, ?_⟩
  · rw [heedV_out _ (by omega), y0 4 (by decide), gj 0 (by omega) (by omega) (by omega), zAG_out (by omega), e4]
  · rw [heedV_out _ (by omega), y0 5 (by decide), gj 1 (by omega) (by omega) (by omega), zAG_out (by omega), e5]
  · rw [heedV_out _ (by omega), y0 6 (by decide), gj 2 (by omega) (by omega) (by omega), zAG_out (by omega), e6]
  · rw [k7, gj 6 (by omega) (by omega) (by omega)]
  · rw [k8, gj 7 (by omega) (by omega) (by omega)]
  · rw [k9, gj 8 (by omega) (by omega) (by omega)]
  · rw [hrow 3 (by decide) (by decide) (by decide), gj 9 (by omega) (by omega) (by omega), zAG_out (by omega), e33]
  · rw [heedV_out _ (by omega), y0 12 (by decide), gj 10 (by omega) (by omega) (by omega), zAG_out (by omega), e12]
  · rw [k13, gj 11 (by omega) (by omega) (by omega)]
  · rw [heedV_out _ (by omega), hy0, up2_eq, gj 12 (by omega) (by omega) (by omega), zAG_12, e14]
  · rw [k10, gj 13 (by omega) (by omega) (by omega)]
  · rw [k11, gj 14 (by omega) (by omega) (by omega)]
  · rw [heedV_row _ (by decide), hy71, gE, pk_un (by decide)]
  · rw [gj 0 (by omega) (by omega) (by omega), zAG_out (by omega)]; exact a1
  · rw [gj 1 (by omega) (by omega) (by omega), zAG_out (by omega)]; exact ⟨hT4, hT, eT⟩
  · rw [gj 2 (by omega) (by omega) (by omega), zAG_out (by omega)]; exact a3
  · rw [gj 13 (by omega) (by omega) (by omega)]; exact kh
  · rw [gj 6 (by omega) (by omega) (by omega)]; exact kb6
  · rw [gj 7 (by omega) (by omega) (by omega)]; exact kb7
  · rw [gj 8 (by omega) (by omega) (by omega)]; exact kb8
  · rw [gj 14 (by omega) (by omega) (by omega)]; exact kb14
  · exact hLg.of (hrow 4 (by decide) (by decide) (by decide)) (hrow 5 (by decide) (by decide) (by decide)) (hrow 6 (by decide) (by decide) (by decide)) (by rw [gj 9 (by omega) (by omega) (by omega), zAG_out (by omega)]) (fun j h1 h2 => by rw [gj j (by omega) (by omega) (by omega), zAG_out (by omega)]) (Nat.le_refl _)
  · refine ⟨by rw [gE, pk_us], Nat.le_refl _, by rw [heedV_row _ (by decide)]; exact hy72, Nat.le_refl _, fun z => by omega, fun j hj hj2 => ?_⟩
    have h3 : j % 300 < 300 := Nat.mod_lt _ (by decide)
    have h3' : j % 300 ≤ j := Nat.mod_le _ _
    obtain ⟨_, _, _, a, q1, q2, q3⟩ := hLg.2 (j % 300) h3 (by omega)
    rw [gj _ (by omega) (by omega) (by omega), zAG_out (by omega), q3]
    exact ⟨fun _ => hj, fun _ => (nI_leI (by omega) (by omega)).mpr q2⟩
  · exact hSk.of (by rw [hrow 3 (by decide) (by decide) (by decide)]) (fun j h1 h2 => by rw [gj j (by omega) (by omega) (by omega), zAG_out (by omega)])
  · intro k hk
    rw [heedV_row _ (by decide), hy8 k hk, gE, pk_un (by omega)]
  · intro i hi
    rw [hrow 1 (by decide) (by decide) (by decide), gj _ (by omega) (by omega) (by omega), zAG_out (by omega)]
    exact hRn i hi
  · exact hMo.of (fun j h1 h2 => by rw [gj j (by omega) (by omega) (by omega), zAG_out (by omega)])
