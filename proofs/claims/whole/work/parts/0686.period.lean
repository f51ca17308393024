/-! ### the period -/
theorem mul_63 {a d : Int32} : -2 ^ 63 ≤ a.toInt * d.toInt ∧ a.toInt * d.toInt < 2 ^ 63 := by
  have h1 := Int32.toInt_lt a
  have h2 := Int32.le_toInt a
  have h3 := Int32.toInt_lt d
  have h4 := Int32.le_toInt d
  have h5 : (a.toInt * d.toInt).natAbs = a.toInt.natAbs * d.toInt.natAbs := Int.natAbs_mul _ _
  have h6 : a.toInt.natAbs * d.toInt.natAbs ≤ 2147483648 * 2147483648 := Nat.mul_le_mul (by omega) (by omega)
  omega
theorem below_iff (a b c d : Int32) : belowV a b c d = 0 ↔ c.toInt * b.toInt ≤ a.toInt * d.toInt := by
  have e1 : (a.toInt64 * d.toInt64).toInt = a.toInt * d.toInt := by
    have := mul_63 (a := a) (d := d)
    rw [Jvm.Kit.i64_mul (by rw [Jvm.Kit.i64_of_i32, Jvm.Kit.i64_of_i32]; exact this.1) (by rw [Jvm.Kit.i64_of_i32, Jvm.Kit.i64_of_i32]; exact this.2), Jvm.Kit.i64_of_i32, Jvm.Kit.i64_of_i32]
  have e2 : (c.toInt64 * b.toInt64).toInt = c.toInt * b.toInt := by
    have := mul_63 (a := c) (d := b)
    rw [Jvm.Kit.i64_mul (by rw [Jvm.Kit.i64_of_i32, Jvm.Kit.i64_of_i32]; exact this.1) (by rw [Jvm.Kit.i64_of_i32, Jvm.Kit.i64_of_i32]; exact this.2), Jvm.Kit.i64_of_i32, Jvm.Kit.i64_of_i32]
  unfold belowV
  have h := lg_cmp_ge (a.toInt64 * d.toInt64) (c.toInt64 * b.toInt64)
  rw [Int64.le_iff_toInt_le, e1, e2] at h
  by_cases q : 0 ≤ lg_cmp (a.toInt64 * d.toInt64) (c.toInt64 * b.toInt64)
  · rw [if_pos q]; exact ⟨fun _ => h.mp q, fun _ => rfl⟩
  · rw [if_neg q]; exact ⟨fun z => absurd z (by decide), fun z => absurd (h.mpr z) q⟩
def OKQ (q : Q4) : Prop := ∃ LT LB MT MB : Nat, q = (nI LT, nI LB, nI MT, nI MB) ∧ LT ≤ 1000000 ∧ (1 ≤ LB ∧ LB ≤ 30) ∧ (1 ≤ MT ∧ MT ≤ 1000000) ∧ 1 ≤ MB ∧ MB ≤ 30
theorem raise_ok {q : Q4} {x : Int32} {Y : Nat} (hx : x.toInt ≤ 1000000) (hY1 : 1 ≤ Y) (hY : Y ≤ 30) (h : OKQ q) : OKQ (raiseQ q x (nI Y)) := by
  obtain ⟨LT, LB, MT, MB, rfl, h1, h2, h3, h4⟩ := h
  by_cases z : belowV (nI LT) (nI LB) x (nI Y) = 0
  · rw [raiseQ_p z]; exact ⟨LT, LB, MT, MB, rfl, h1, h2, h3, h4⟩
  · rw [raiseQ_n z]
    have z2 : ¬ x.toInt * (nI LB).toInt ≤ (nI LT).toInt * (nI Y).toInt := fun q => z ((below_iff _ _ _ _).mpr q)
    rw [nI_toInt (by omega), nI_toInt (by omega), nI_toInt (by omega)] at z2
    have hx0 : 0 ≤ x.toInt := by
      rcases Int.lt_or_le x.toInt 0 with q | q
      · exfalso
        apply z2
        have e1 : x.toInt * (LB : Int) ≤ 0 := Int.mul_nonpos_of_nonpos_of_nonneg (by omega) (by omega)
        have e2 : 0 ≤ (LT : Int) * (Y : Int) := Int.mul_nonneg (by omega) (by omega)
        omega
      · exact q
    obtain ⟨X, hX, rfl⟩ := nI_of (x := x) (fun q => by have := Int32.lt_iff_toInt_lt.mp q; rw [show (0 : Int32).toInt = 0 by decide] at this; omega)
    rw [nI_toInt hX] at hx
    exact ⟨X, Y, MT, MB, rfl, by omega, ⟨hY1, hY⟩, h3, h4⟩
theorem lower_ok {q : Q4} {X Y : Nat} (hX1 : 1 ≤ X) (hX : X ≤ 1000000) (hY1 : 1 ≤ Y) (hY : Y ≤ 30) (h : OKQ q) : OKQ (lowerQ q (nI X) (nI Y)) := by
  obtain ⟨LT, LB, MT, MB, rfl, h1, h2, h3, h4⟩ := h
  by_cases z : belowV (nI X) (nI Y) (nI MT) (nI MB) = 0
  · rw [lowerQ_p z]; exact ⟨LT, LB, MT, MB, rfl, h1, h2, h3, h4⟩
  · rw [lowerQ_n z]; exact ⟨LT, LB, X, Y, rfl, h1, h2, ⟨hX1, hX⟩, hY1, hY⟩
/-- the ticks of the M latest events, in order -/
def Tk (tau : Nat → Int32) (A : Nat → Nat) (M t : Nat) : Prop := (∀ i, i < M → tau i = nI (A i) ∧ 1 ≤ A i ∧ A i ≤ t) ∧ ∀ i j, i < j → j < M → A i ≤ A j
section
variable {tau tau' : Nat → Int32} {A : Nat → Nat} {M t : Nat}
theorem tk_sub (ht : t ≤ 1000000) (h : Tk tau A M t) {i j : Nat} (hij : i < j) (hj : j < M) : (tau j - tau i - 1).toInt ≤ 1000000 ∧ tau j - tau i + 1 = nI (A j - A i + 1) ∧ 1 ≤ A j - A i + 1 ∧ A j - A i + 1 ≤ 1000000 := by
  obtain ⟨ei, i1, i2⟩ := h.1 i (by omega)
  obtain ⟨ej, j1, j2⟩ := h.1 j hj
  have hm := h.2 i j hij hj
  refine ⟨?_, by rw [ei, ej, pk_sub hm]; exact nI_1 _, by omega, by omega⟩
  rw [ei, ej, pk_sub hm, show (1 : Int32) = nI 1 from rfl, pk_sub_toInt (by omega) (by omega)]
  omega
theorem in_ok (ht : t ≤ 1000000) (hM : M ≤ 30) (h : Tk tau A M t) {i j : Nat} (hij : i < j) (hj : j < M) {q : Q4} (hq : OKQ q) : OKQ (inQ tau i j q) := by
  obtain ⟨s1, s2, s3, s4⟩ := tk_sub ht h hij hj
  unfold inQ
  rw [s2]
  exact lower_ok s3 s4 (by omega) (by omega) (raise_ok s1 (by omega) (by omega) hq)
theorem inner_ok (ht : t ≤ 1000000) (hM : M ≤ 30) (h : Tk tau A M t) {i : Nat} {q : Q4} (hq : OKQ q) : ∀ c, i + 1 + c ≤ M → OKQ (innerQ tau i c q) := by
  intro c
  induction c with
  | zero => intro _; exact hq
  | succ c ih => intro hc; exact in_ok ht hM h (by omega) (by omega) (ih (by omega))
theorem fold_ok (ht : t ≤ 1000000) (hM : M ≤ 30) (h : Tk tau A M t) {q : Q4} (hq : OKQ q) : ∀ c, c ≤ M → OKQ (foldQ tau (nI t) M c q) := by
  intro c
  induction c with
  | zero => intro _; exact hq
  | succ c ih =>
    intro hc
    have h1 := ih (by omega)
    obtain ⟨ec, c1, c2⟩ := h.1 c (by omega)
    show OKQ (innerQ tau c (M - (c + 1)) (raiseQ (foldQ tau (nI t) M c q) (nI t - tau c) (nI (M - c))))
    refine inner_ok ht hM h (raise_ok ?_ (by omega) (by omega) h1) _ (by omega)
    rw [ec, pk_sub c2, nI_toInt (by omega)]
    omega
theorem inner_congr (h : ∀ i, i < M → tau i = tau' i) {i : Nat} (hi : i < M) {q : Q4} : ∀ c, i + 1 + c ≤ M → innerQ tau i c q = innerQ tau' i c q := by
  intro c
  induction c with
  | zero => intro _; rfl
  | succ c ih =>
    intro hc
    show inQ tau i (i + 1 + c) (innerQ tau i c q) = inQ tau' i (i + 1 + c) (innerQ tau' i c q)
    rw [ih (by omega)]
    unfold inQ
    rw [h i hi, h (i + 1 + c) (by omega)]
theorem fold_congr (h : ∀ i, i < M → tau i = tau' i) {now : Int32} {q : Q4} : ∀ c, c ≤ M → foldQ tau now M c q = foldQ tau' now M c q := by
  intro c
  induction c with
  | zero => intro _; rfl
  | succ c ih =>
    intro hc
    show innerQ tau c (M - (c + 1)) (raiseQ (foldQ tau now M c q) (now - tau c) (nI (M - c))) = innerQ tau' c (M - (c + 1)) (raiseQ (foldQ tau' now M c q) (now - tau' c) (nI (M - c)))
    rw [ih (by omega), h c (by omega)]
    exact inner_congr h (by omega) _ (by omega)
theorem in_first (ht : t ≤ 1000000) (hM2 : 2 ≤ M) (h : Tk tau A M t) (lt lb : Int32) : inQ tau 0 1 (lt, lb, 1, 0) = inQ tau 0 1 (lt, lb, 1000000, 1) := by
  obtain ⟨s1, s2, s3, s4⟩ := tk_sub ht h (i := 0) (j := 1) (by omega) (by omega)
  unfold inQ
  rw [s2, raiseQ_if, raiseQ_if, lowerQ_if, lowerQ_if, show (1 : Nat) - 0 = 1 from rfl]
  have c1 : ¬ belowV (nI (A 1 - A 0 + 1)) (nI 1) 1 0 = 0 := by
    rw [below_iff, show (1 : Int32).toInt = 1 by decide, show (nI 1).toInt = 1 by decide, show (0 : Int32).toInt = 0 by decide]
    omega
  rw [if_neg c1, if_neg c1]
  by_cases c2 : belowV (nI (A 1 - A 0 + 1)) (nI 1) 1000000 1 = 0
  · rw [if_pos c2, if_pos c2]
    rw [below_iff, show (1000000 : Int32).toInt = 1000000 by decide, show (nI 1).toInt = 1 by decide, show (1 : Int32).toInt = 1 by decide, nI_toInt (by omega)] at c2
    have e : A 1 - A 0 + 1 = 1000000 := by omega
    rw [e]
    rfl
  · rw [if_neg c2, if_neg c2]
theorem inner_first (ht : t ≤ 1000000) (hM2 : 2 ≤ M) (h : Tk tau A M t) (lt lb : Int32) : ∀ c, innerQ tau 0 (c + 1) (lt, lb, 1, 0) = innerQ tau 0 (c + 1) (lt, lb, 1000000, 1) := by
  intro c
  induction c with
  | zero => exact in_first ht hM2 h lt lb
  | succ c ih =>
    show inQ tau 0 (0 + 1 + (c + 1)) (innerQ tau 0 (c + 1) (lt, lb, 1, 0)) = inQ tau 0 (0 + 1 + (c + 1)) (innerQ tau 0 (c + 1) (lt, lb, 1000000, 1))
    rw [ih]
theorem fold_first (ht : t ≤ 1000000) (hM2 : 2 ≤ M) (h : Tk tau A M t) (now : Int32) : ∀ c, foldQ tau now M (c + 1) (0, 1, 1, 0) = foldQ tau now M (c + 1) (0, 1, 1000000, 1) := by
  intro c
  induction c with
  | zero =>
    show innerQ tau 0 (M - (0 + 1)) (raiseQ (0, 1, 1, 0) (now - tau 0) (nI (M - 0))) = innerQ tau 0 (M - (0 + 1)) (raiseQ (0, 1, 1000000, 1) (now - tau 0) (nI (M - 0)))
    rw [raiseQ_if, raiseQ_if, show M - (0 + 1) = M - 2 + 1 by omega]
    exact inner_first ht hM2 h _ _ _
  | succ c ih =>
    show outQ tau now M (c + 1) (foldQ tau now M (c + 1) (0, 1, 1, 0)) = outQ tau now M (c + 1) (foldQ tau now M (c + 1) (0, 1, 1000000, 1))
    rw [ih]
end
theorem rem_nat {X Y : Nat} (hX : X < 2 ^ 31) (h0 : 0 < Y) (hY : Y < 2 ^ 31) : rem32 (nI X) (nI Y) = nI (X % Y) := pk_rem hX h0 hY
theorem gcdG_val : ∀ (F X Y : Nat), Y < F → X < 2 ^ 31 → Y < 2 ^ 31 → gcdG F (nI X) (nI Y) = nI (Nat.gcd X Y) := by
  intro F
  induction F with
  | zero => intro X Y h; omega
  | succ F ih =>
    intro X Y h hX hY
    rw [gcdG_s]
    rcases Nat.eq_zero_or_pos Y with z | z
    · subst z
      rw [if_pos (by decide), Nat.gcd_zero_right]
    · have hm := Nat.mod_lt X z
      rw [if_neg (nI_npos z hY), rem_nat hX z hY, ih Y (X % Y) (by omega) hY (by omega), Nat.gcd_comm X Y, Nat.gcd_rec Y X, Nat.gcd_comm]
theorem gcdF_val : ∀ (f F X Y : Nat), Y < 2 ^ f → 2 * f + 1 ≤ F → X < 2 ^ 31 → Y < 2 ^ 31 → gcdF F (nI X) (nI Y) = nI (Nat.gcd X Y) := by
  intro f
  induction f with
  | zero =>
    intro F X Y h hF hX hY
    obtain ⟨F', rfl⟩ : ∃ F', F = F' + 1 := ⟨F - 1, by omega⟩
    have hz : Y = 0 := by omega
    subst hz
    rw [gcdF_s, if_pos (by decide), Nat.gcd_zero_right]
  | succ f ih =>
    intro F X Y h hF hX hY
    obtain ⟨F', rfl⟩ : ∃ F', F = F' + 1 + 1 := ⟨F - 2, by omega⟩
    rw [gcdF_s]
    rcases Nat.eq_zero_or_pos Y with z | z
    · subst z
      rw [if_pos (by decide), Nat.gcd_zero_right]
    · have hm := Nat.mod_lt X z
      have g1 : Nat.gcd X Y = Nat.gcd Y (X % Y) := by rw [Nat.gcd_comm X Y, Nat.gcd_rec Y X, Nat.gcd_comm]
      rw [if_neg (nI_ne0 z hY), rem_nat hX z hY, gcdF_s, g1]
      rcases Nat.eq_zero_or_pos (X % Y) with z2 | z2
      · rw [z2, if_pos (by decide), Nat.gcd_zero_right]
      · have hm2 := Nat.mod_lt Y z2
        have g2 : Nat.gcd Y (X % Y) = Nat.gcd (X % Y) (Y % (X % Y)) := by rw [Nat.gcd_comm Y (X % Y), Nat.gcd_rec (X % Y) Y, Nat.gcd_comm]
        have hhalf : 2 * (Y % (X % Y)) < Y := by
          have e := Nat.div_add_mod Y (X % Y)
          have hd : 1 ≤ Y / (X % Y) := Nat.div_pos (by omega) z2
          have hle : (X % Y) * 1 ≤ (X % Y) * (Y / (X % Y)) := Nat.mul_le_mul_left _ hd
          omega
        have hp : 2 ^ (f + 1) = 2 * 2 ^ f := by rw [Nat.pow_succ, Nat.mul_comm]
        rw [if_neg (nI_ne0 z2 (by omega)), rem_nat hY z2 (by omega), g2]
        exact ih F' (X % Y) (Y % (X % Y)) (by omega) (by omega) (by omega) (by omega)
theorem red_val {X Y : Nat} (hX : X ≤ 1000000) (hY : Y ≤ 1000000) (h : 1 ≤ X ∨ 1 ≤ Y) : redV (nI X) (nI Y) = nI X / nI (Nat.gcd X Y) := by
  have e := gcdF_val 20 100 X Y (by omega) (by omega) (by omega) (by omega)
  have hg : 0 < Nat.gcd X Y := by
    rcases h with h | h
    · exact Nat.gcd_pos_of_pos_left _ h
    · exact Nat.gcd_pos_of_pos_right _ h
  have hl : Nat.gcd X Y ≤ 1000000 := by
    rcases h with h | h
    · exact Nat.le_trans (Nat.gcd_le_left _ h) hX
    · exact Nat.le_trans (Nat.gcd_le_right _ h) hY
  unfold redV
  rw [e, if_neg (nI_ne0 hg (by omega))]
theorem cut_eq {q : Q4} {p : Int32} (hq : OKQ q) (h0 : ¬ p < 0) (h4 : p < 4) : cutC q p = cutM q p := by
  obtain ⟨LT, LB, MT, MB, rfl, h1, ⟨h2, h2'⟩, ⟨h3, h3'⟩, h5, h5'⟩ := hq
  unfold cutC cutM partV
  dsimp only
  have e1 : gcdG ((nI LB).toInt.toNat + 1) (nI LT) (nI LB) = nI (Nat.gcd LT LB) := by
    rw [nI_toInt (by omega)]
    exact gcdG_val _ _ _ (by omega) (by omega) (by omega)
  have e2 : gcdG ((nI MB).toInt.toNat + 1) (nI MT) (nI MB) = nI (Nat.gcd MT MB) := by
    rw [nI_toInt (by omega)]
    exact gcdG_val _ _ _ (by omega) (by omega) (by omega)
  rw [e1, e2, red_val (by omega) (by omega) (Or.inr h2), red_val (by omega) (by omega) (Or.inl h2), red_val (by omega) (by omega) (Or.inl h3), red_val (by omega) (by omega) (Or.inl h5), Nat.gcd_comm LB LT, Nat.gcd_comm MB MT]
  obtain ⟨j, hj, rfl⟩ := nI_of h0
  have hj4 : j < 4 := (nI_ltI (b := 4) hj (by decide)).mp h4
  rcases (show j = 0 ∨ j = 1 ∨ j = 2 ∨ j = 3 by omega) with rfl | rfl | rfl | rfl <;> rfl
theorem ask_period {c r : Tb} {b t : Nat} (ht : t ≤ 1000000) (e4 : r 0 4 = nI t) (h : SR c (G r b) t) (mm p : Int32) : periodV c (nI t) mm p = periodM r b mm p := by
  have hrow := ask_row ht h
  obtain ⟨ho, T, C, n, S, Z, E, hnS, hSc, hRg, hLg, hZe, hSk, hPa, hTe, hRn, hMo⟩ := h
  have hSt := hPa.2.1
  have en : r 1 (b + 9) = nI n := hLg.1
  have e33 : c 3 3 = nI n := hSc.2.2.2.2.2.2.1.trans hLg.1
  unfold periodV periodM
  rw [hrow]
  by_cases p0 : p < 0
  · rw [if_pos p0, if_pos p0]
    split <;> (try split) <;> rfl
  rw [if_neg p0, if_neg p0]
  by_cases p4 : p < 4
  · have p3 : ¬ 3 < p := by
      obtain ⟨j, hj, rfl⟩ := nI_of p0
      have := (nI_ltI (b := 4) hj (by decide)).mp p4
      intro q
      have := (nI_ltI (a := 3) (by decide) hj).mp q
      omega
    rw [if_pos p4, if_neg p3]
    by_cases m2 : mm < 2
    · rw [if_pos m2, if_pos m2]
    rw [if_neg m2, if_neg m2]
    by_cases m30 : 30 < mm
    · rw [if_pos m30, if_pos m30]
    rw [if_neg m30, if_neg m30]
    by_cases hr : mm ≤ rowM r b
    · rw [if_pos hr, if_pos hr]
      obtain ⟨M, hM31, rfl⟩ := nI_of (x := mm) (fun q => m2 (Int32.lt_trans q (by decide)))
      have hM2 : 2 ≤ M := Nat.not_lt.mp (fun q => m2 ((nI_ltI (b := 2) hM31 (by decide)).mpr q))
      have hM : M ≤ 30 := Nat.not_lt.mp (fun q => m30 ((nI_ltI (a := 30) (by decide) hM31).mpr q))
      have hMn := row_ge en (by omega) hM2 hM hr
      rw [nI_clamp hM31]
      unfold perV perM
      have tm : ∀ i, i < M → tauM r b M i = G r b (320 + (n - 1 - (M - 1 - i)) % 300) := fun i hi => by
        unfold tauM G
        rw [en, latN_val (by omega) (by omega) (by omega), Nat.add_assoc]
      have tt : ∀ i, i < M → tauC c M i = tauM r b M i := fun i hi => by
        have hm : (n - 1 - (M - 1 - i)) % 300 ≤ n - 1 - (M - 1 - i) := Nat.mod_le _ _
        rw [tm i hi]
        unfold tauC
        rw [e33, slot_val (by omega) (by omega)]
        exact (hLg.2 _ (Nat.mod_lt _ (by decide)) (by omega)).2.1
      have hTk : Tk (tauM r b M) (fun i => (tauM r b M i).toNatClampNeg) M t := by
        have val : ∀ i, i < M → ∃ a, 1 ≤ a ∧ a ≤ t ∧ tauM r b M i = nI a := fun i hi => by
          have hm : (n - 1 - (M - 1 - i)) % 300 ≤ n - 1 - (M - 1 - i) := Nat.mod_le _ _
          obtain ⟨_, _, _, a, a1, a2, a3⟩ := hLg.2 ((n - 1 - (M - 1 - i)) % 300) (Nat.mod_lt _ (by decide)) (by omega)
          exact ⟨a, a1, a2, by rw [tm i hi, a3]⟩
        refine ⟨fun i hi => ?_, fun i j hij hj => ?_⟩
        · obtain ⟨a, a1, a2, a3⟩ := val i hi
          dsimp only
          rw [a3, nI_clamp (by omega)]
          exact ⟨rfl, a1, a2⟩
        · obtain ⟨a, a1, a2, a3⟩ := val i (by omega)
          obtain ⟨a', a1', a2', a3'⟩ := val j hj
          dsimp only
          rw [a3, a3', nI_clamp (by omega), nI_clamp (by omega)]
          have hmo := hMo (n - 1 - (M - 1 - i)) (n - 1 - (M - 1 - j)) (by omega) (by omega) (by omega)
          rw [← tm i (by omega), ← tm j hj, a3, a3'] at hmo
          exact (nI_leI (by omega) (by omega)).mp hmo
      have hst : OKQ ((0, 1, 1000000, 1) : Q4) := ⟨0, 1, 1000000, 1, rfl, by omega, by omega, by omega, by omega, by omega⟩
      obtain ⟨M', rfl⟩ : ∃ M', M = M' + 1 := ⟨M - 1, by omega⟩
      rw [e4, fold_congr tt _ (Nat.le_refl _), fold_first ht hM2 hTk]
      exact cut_eq (fold_ok ht hM hTk hst _ (Nat.le_refl _)) p0 p4
    · rw [if_neg hr, if_neg hr]
  · have p3 : 3 < p := by
      obtain ⟨j, hj, rfl⟩ := nI_of p0
      have : ¬ j < 4 := fun q => p4 ((nI_ltI (b := 4) hj (by decide)).mpr q)
      exact (nI_ltI (a := 3) (by decide) hj).mpr (by omega)
    rw [if_neg p4, if_pos p3]
    split <;> (try split) <;> rfl
