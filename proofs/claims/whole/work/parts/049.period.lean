/-! ### the reference: period -/
abbrev Q4 : Type := Int32 × Int32 × Int32 × Int32
def raiseQ (q : Q4) (x y : Int32) : Q4 := if belowV q.1 q.2.1 x y = 0 then q else (x, y, q.2.2.1, q.2.2.2)
def lowerQ (q : Q4) (x y : Int32) : Q4 := if belowV x y q.2.2.1 q.2.2.2 = 0 then q else (q.1, q.2.1, x, y)
def inQ (tau : Nat → Int32) (i j : Nat) (q : Q4) : Q4 := lowerQ (raiseQ q (tau j - tau i - 1) (nI (j - i))) (tau j - tau i + 1) (nI (j - i))
def innerQ (tau : Nat → Int32) (i : Nat) : Nat → Q4 → Q4
  | 0, q => q
  | c + 1, q => inQ tau i (i + 1 + c) (innerQ tau i c q)
def outQ (tau : Nat → Int32) (now : Int32) (M i : Nat) (q : Q4) : Q4 := innerQ tau i (M - (i + 1)) (raiseQ q (now - tau i) (nI (M - i)))
def foldQ (tau : Nat → Int32) (now : Int32) (M : Nat) : Nat → Q4 → Q4
  | 0, q => q
  | c + 1, q => outQ tau now M c (foldQ tau now M c q)
theorem innerQ_s (tau : Nat → Int32) (i j : Nat) (q : Q4) (h : i + 1 ≤ j) : innerQ tau i (j + 1 - (i + 1)) q = inQ tau i j (innerQ tau i (j - (i + 1)) q) := by
  obtain ⟨c, rfl⟩ : ∃ c, j = i + 1 + c := ⟨j - (i + 1), by omega⟩
  rw [show i + 1 + c + 1 - (i + 1) = c + 1 by omega, show i + 1 + c - (i + 1) = c by omega]
  rfl
theorem raiseQ_p {lt lb mt mb x y : Int32} (h : belowV lt lb x y = 0) : raiseQ (lt, lb, mt, mb) x y = (lt, lb, mt, mb) := if_pos h
theorem raiseQ_n {lt lb mt mb x y : Int32} (h : ¬ belowV lt lb x y = 0) : raiseQ (lt, lb, mt, mb) x y = (x, y, mt, mb) := if_neg h
theorem lowerQ_p {lt lb mt mb x y : Int32} (h : belowV x y mt mb = 0) : lowerQ (lt, lb, mt, mb) x y = (lt, lb, mt, mb) := if_pos h
theorem lowerQ_n {lt lb mt mb x y : Int32} (h : ¬ belowV x y mt mb = 0) : lowerQ (lt, lb, mt, mb) x y = (lt, lb, x, y) := if_neg h
def tauM (r : Tb) (b M i : Nat) : Int32 := r 1 (b + 320 + latN (r 1 (b + 9)) (nI (M - 1 - i)))
def cutM (q : Q4) (p : Int32) : Int32 := if belowV q.1 q.2.1 q.2.2.1 q.2.2.2 = 0 then -1 else if p = 0 then q.1 / gcdG (q.2.1.toInt.toNat + 1) q.1 q.2.1 else if p = 1 then q.2.1 / gcdG (q.2.1.toInt.toNat + 1) q.1 q.2.1 else if p = 2 then q.2.2.1 / gcdG (q.2.2.2.toInt.toNat + 1) q.2.2.1 q.2.2.2 else q.2.2.2 / gcdG (q.2.2.2.toInt.toNat + 1) q.2.2.1 q.2.2.2
def perM (r : Tb) (b M : Nat) (p : Int32) : Int32 := cutM (foldQ (tauM r b M) (r 0 4) M M (0, 1, 1000000, 1)) p
def periodM (r : Tb) (b : Nat) (mm p : Int32) : Int32 := if mm < 2 then -1 else if 30 < mm then -1 else if p < 0 then -1 else if 3 < p then -1 else if mm ≤ rowM r b then perM r b mm.toNatClampNeg p else -1
theorem perM_eq {r : Tb} {b M : Nat} {p lt lb mt mb : Int32} (h : foldQ (tauM r b M) (r 0 4) M M (0, 1, 1000000, 1) = (lt, lb, mt, mb)) : perM r b M p = cutM (lt, lb, mt, mb) p := by unfold perM; rw [h]
theorem gcdG_pos : ∀ (f : Nat) (x y : Int32), y.toInt.toNat < f → ¬ y ≤ 0 → ¬ gcdG f x y = 0 := by
  intro f
  induction f with
  | zero => intro x y h; omega
  | succ f ih =>
    intro x y h hy
    rw [gcdG_s, if_neg hy]
    have hl := gcd_less (x := x) hy
    by_cases h2 : rem32 x y ≤ 0
    · obtain ⟨z, hz⟩ : ∃ z, f = z + 1 := ⟨f - 1, by omega⟩
      subst hz
      rw [gcdG_s, if_pos h2]
      intro q
      exact hy (by rw [q]; decide)
    · exact ih y (rem32 x y) (by omega) h2
theorem nI_npos {k : Nat} (h1 : 1 ≤ k) (h2 : k < 2 ^ 31) : ¬ nI k ≤ 0 := by
  intro h
  have := (nI_leI (a := k) (b := 0) h2 (by decide)).mp h
  omega
theorem rowF_le {r : Tb} {b n : Nat} {s0 : Int32} (hn : r 1 (b + 9) = nI n) (hn2 : n ≤ 1000000) : ∀ (f k : Nat), k ≤ n → k + f ≤ 301 → rowF r b s0 f k ≤ n := by
  intro f
  induction f with
  | zero => intro k h _; exact h
  | succ f ih =>
    intro k h hk
    rw [rowF_s]
    by_cases c1 : latV (r 1 (b + 9)) (nI k) < 0
    · rw [if_pos c1]; exact h
    · rw [if_neg c1]
      split
      · refine ih (k + 1) ?_ (by omega)
        rcases Nat.lt_or_ge k n with q | q
        · exact q
        · exfalso
          apply c1
          rcases Nat.lt_or_ge k 300 with q3 | q3
          · rw [hn, lat_out q3 (by omega) (by omega)]; decide
          · rw [show k = 300 by omega]; unfold latV; rw [if_neg (by decide), if_pos (by decide)]; decide
      · exact h
theorem row_ge {r : Tb} {b n M : Nat} (hn : r 1 (b + 9) = nI n) (hn2 : n ≤ 1000000) (hM2 : 2 ≤ M) (hM : M ≤ 30) (h : nI M ≤ rowM r b) : M ≤ n := by
  have h0 : ¬ nI M ≤ 0 := nI_npos (by omega) (by omega)
  unfold rowM at h
  split at h
  · exact absurd h h0
  · rename_i c1
    split at h
    · exact absurd h h0
    · have h1 : 1 ≤ n := by
        rcases Nat.eq_zero_or_pos n with q | q
        · exfalso
          apply c1
          subst q
          rw [hn]
          decide
        · exact q
      have hF := rowF_le (s0 := r 1 (b + 20 + latN (r 1 (b + 9)) 0)) hn hn2 300 1 h1 (by omega)
      exact Nat.le_trans ((nI_leI (by omega) (by omega)).mp h) hF
theorem lat_nn {r : Tb} {b n M : Nat} (hn : r 1 (b + 9) = nI n) (hn2 : n ≤ 1000000) (hM : M ≤ 30) (hMn : M ≤ n) : ∀ k, k < M → ¬ latV (r 1 (b + 9)) (nI k) < 0 := by
  intro k hk
  rw [hn, lat_val (by omega) (by omega) (by omega)]
  have : (n - 1 - k) % 300 < 300 := Nat.mod_lt _ (by decide)
  exact nI_pos (by omega)

def rm_X6_period : Room := { frames := 2, cells := 0, slots := 0, locals := 47 }
set_option maxHeartbeats 1000000 in
set_option maxRecDepth 100000 in
theorem c_X6_period (l : Launch) (D : va_G) (cI cB : ClassId) (A : Nat → Nat) (r : Tb) (rd mm pt : Int32) (ok0 : okM r (1510 * 0)) (ok1 : okM r (1510 * 1)) : SI l D cI cB yX6_period wsX6_period rm_X6_period [.ref (A 0), .int rd, .int mm, .int pt] (modelW A cI r) (rdV rd (periodM r (1510 * 0) mm pt) (periodM r (1510 * 1) mm pt) (-1)) := by
  refine SI.of (cc := cX6_period) (maxL := 13) (ty := .int) (by decide +kernel) rfl (Nat.le_of_ble_eq_true rfl) ?_
  intro p e s m args below meth c ls Q hT hP hD hl hE
  obtain ⟨hx, hb, hr, hlocks, hnm, hml, hown, hts, hK, hN⟩ := hT
  have hl : lv_has ls 13 [(0, .ref (A 0)), (1, .int rd), (2, .int mm), (3, .int pt)] := hl
  have hi6 : ∀ w ∈ wsX60, w ∈ wsX6_period := by decide +kernel
  by_cases c0 : rd = 0
  · subst c0
    refine lv_iload_n hx hb dX6_period_0 rfl (lv_at hl 1 rfl) ?_
    refine kSI (va_runS (As := [.int 0]) (rest := []) ⟨hx, hb, hml, hown, hts⟩ (c_X6_isReader l D cI cB 0  _) (va_cwS 1 hts gX6_period_X6_isReader rfl rfl rfl (by decide +kernel) ⟨Nat.le_of_ble_eq_true rfl, Nat.le_of_ble_eq_true rfl⟩) (preS_nil hK hN) rfl rfl hl.1 rfl (lv_room (Nat.le_of_ble_eq_true rfl)) dX6_period_1 ⟨Nat.zero_le _, Nat.zero_le _⟩) ?_
    refine lv_if_eq (tgt := 36) hx hb dX6_period_4 (by decide) (fun c_4 => ?_) (fun c_4 => ?_)
    · exact absurd c_4 (by decide)
    · skip
      refine lv_iload_n hx hb dX6_period_7 rfl (lv_at hl 2 rfl) ?_
      refine lv_iconst (v := 2) hx hb dX6_period_8 (by decide) ?_
      refine lv_icmp_lt (tgt := 36) hx hb dX6_period_9 (by decide) (fun c_9 => ?_) (fun c_9 => ?_)
      · skip
        refine lv_iconst (v := -1) hx hb dX6_period_36 (by decide) ?_
        exact hE _ _ _ (by rw [rdV_0]; unfold periodM; rw [if_pos c_9]) rfl dX6_period_37
      · skip
        refine lv_iload_n hx hb dX6_period_12 rfl (lv_at hl 2 rfl) ?_
        refine lv_bipush (v := 30) hx hb dX6_period_13 (by decide) ?_
        refine lv_icmp_gt (tgt := 36) hx hb dX6_period_15 (by decide) (fun c_15 => ?_) (fun c_15 => ?_)
        · skip
          refine lv_iconst (v := -1) hx hb dX6_period_36 (by decide) ?_
          exact hE _ _ _ (by rw [rdV_0]; unfold periodM; rw [if_neg c_9, if_pos c_15]) rfl dX6_period_37
        · skip
          refine lv_iload_n hx hb dX6_period_18 rfl (lv_at hl 3 rfl) ?_
          refine lv_if_lt (tgt := 36) hx hb dX6_period_19 (by decide) (fun c_19 => ?_) (fun c_19 => ?_)
          · skip
            refine lv_iconst (v := -1) hx hb dX6_period_36 (by decide) ?_
            exact hE _ _ _ (by rw [rdV_0]; unfold periodM; rw [if_neg c_9, if_neg c_15, if_pos c_19]) rfl dX6_period_37
          · skip
            refine lv_iload_n hx hb dX6_period_22 rfl (lv_at hl 3 rfl) ?_
            refine lv_iconst (v := 3) hx hb dX6_period_23 (by decide) ?_
            refine lv_icmp_gt (tgt := 36) hx hb dX6_period_24 (by decide) (fun c_24 => ?_) (fun c_24 => ?_)
            · skip
              refine lv_iconst (v := -1) hx hb dX6_period_36 (by decide) ?_
              exact hE _ _ _ (by rw [rdV_0]; unfold periodM; rw [if_neg c_9, if_neg c_15, if_neg c_19, if_pos c_24]) rfl dX6_period_37
            · skip
              refine lv_aload_n hx hb dX6_period_27 rfl (lv_at hl 0 rfl) ?_
              refine lv_iload_n hx hb dX6_period_28 rfl (lv_at hl 1 rfl) ?_
              refine kSI (va_runV (As := [.int 0]) (rest := []) ⟨hx, hb, hml, hown, hts⟩ (c_X6_row l D cI cB A r 0  _) (cwV 1 hts gX6_period_X6_row rfl rfl rfl (by decide +kernel) ⟨Nat.le_of_ble_eq_true rfl, Nat.le_of_ble_eq_true rfl⟩) (preV_cut hP hD hK hN (ci := 6) rfl 0 rfl [0, 1, 2, 3, 4, 5] (by decide) rfl) rfl rfl hl.1 rfl (lv_room (Nat.le_of_ble_eq_true rfl)) dX6_period_29 ⟨Nat.zero_le _, Nat.zero_le _⟩) ?_
              refine x_top (y := rowM r (1510 * 0)) (rdV_0 _ _ _) ?_
              refine lv_iload_n hx hb dX6_period_32 rfl (lv_at hl 2 rfl) ?_
              refine lv_icmp_ge (tgt := 38) hx hb dX6_period_33 (by decide) (fun c_33 => ?_) (fun c_33 => ?_)
              · skip
                obtain ⟨M, hM31, eM⟩ := nI_of (x := mm) (fun q => c_9 (Int32.lt_trans q (by decide)))
                subst eM
                have hM2 : 2 ≤ M := Nat.not_lt.mp (fun q => c_9 ((nI_ltI (b := 2) hM31 (by decide)).mpr q))
                have hM : M ≤ 30 := Nat.not_lt.mp (fun q => c_15 ((nI_ltI (a := 30) (by decide) hM31).mpr q))
                obtain ⟨n, hn2, hn⟩ := ok0.2.2
                have hMn := row_ge hn hn2 hM2 hM c_33
                have hlat := lat_nn hn hn2 hM hMn
                refine lv_sipush (v := 1510) hx hb dX6_period_38 (by decide) ?_
                refine lv_iload_n hx hb dX6_period_41 rfl (lv_at hl 1 rfl) ?_
                refine lv_imul hx hb dX6_period_42 ?_
                refine x_top (y := nI (1510 * 0)) (by decide) ?_
                refine lv_istore (lv' := [(4, .int (nI (1510 * 0))), (0, .ref (A 0)), (1, .int 0), (2, .int (nI M)), (3, .int pt)]) hx hb dX6_period_43 hl (by decide) rfl (fun ls hl => ?_)
                refine lv_iconst (v := 0) hx hb dX6_period_45 (by decide) ?_
                refine lv_istore (lv' := [(5, .int 0), (4, .int (nI (1510 * 0))), (0, .ref (A 0)), (1, .int 0), (2, .int (nI M)), (3, .int pt)]) hx hb dX6_period_46 hl (by decide) rfl (fun ls hl => ?_)
                refine lv_iconst (v := 1) hx hb dX6_period_48 (by decide) ?_
                refine lv_istore (lv' := [(6, .int 1), (5, .int 0), (4, .int (nI (1510 * 0))), (0, .ref (A 0)), (1, .int 0), (2, .int (nI M)), (3, .int pt)]) hx hb dX6_period_49 hl (by decide) rfl (fun ls hl => ?_)
                refine lv_ldc (v := 1000000) hx hb hown (hts (.constant RX6 69 (1000000)) (by decide +kernel)) dX6_period_51 ?_
                refine lv_istore (lv' := [(7, .int 1000000), (6, .int 1), (5, .int 0), (4, .int (nI (1510 * 0))), (0, .ref (A 0)), (1, .int 0), (2, .int (nI M)), (3, .int pt)]) hx hb dX6_period_53 hl (by decide) rfl (fun ls hl => ?_)
                refine lv_iconst (v := 1) hx hb dX6_period_55 (by decide) ?_
                refine lv_istore (lv' := [(8, .int 1), (7, .int 1000000), (6, .int 1), (5, .int 0), (4, .int (nI (1510 * 0))), (0, .ref (A 0)), (1, .int 0), (2, .int (nI M)), (3, .int pt)]) hx hb dX6_period_56 hl (by decide) rfl (fun ls hl => ?_)
                refine lv_iconst (v := 0) hx hb dX6_period_58 (by decide) ?_
                refine lv_istore (lv' := [(9, .int 0), (8, .int 1), (7, .int 1000000), (6, .int 1), (5, .int 0), (4, .int (nI (1510 * 0))), (0, .ref (A 0)), (1, .int 0), (2, .int (nI M)), (3, .int pt)]) hx hb dX6_period_59 hl (by decide) rfl (fun ls hl => ?_)
                have hfold : ∀ q : Q4, foldQ (tauM r (1510 * 0) M) (r 0 4) M 0 q = q := fun q => rfl
                have lp : ∀ (fuel : Nat) (i : Nat) (lt : Int32) (lb : Int32) (mt : Int32) (mb : Int32), (i ≤ M) → (M < i + fuel) → (foldQ (tauM r (1510 * 0) M) (r 0 4) M i (0, 1, 1000000, 1) = (lt, lb, mt, mb)) → (¬ lb ≤ 0) → (¬ mb ≤ 0) → ∀ (ls : Array Slot), lv_has ls 13 [(0, .ref (A 0)), (1, .int 0), (2, .int (nI M)), (3, .int pt), (4, .int (nI (1510 * 0))), (5, .int lt), (6, .int lb), (7, .int mt), (8, .int mb), (9, .int (nI i))] → W p l e rm_X6_period s m args below meth c s.heap [] 0 0 Q (F0 m 61 ls []) := by
                  intro fuel
                  induction fuel with
                  | zero => intro i lt lb mt mb hi hm hq hlb hmb ls hl; exact absurd hm (by omega)
                  | succ fuel ih =>
                    intro i lt lb mt mb hi hm hq hlb hmb ls hl
                    refine lv_iload hx hb dX6_period_61 (lv_at hl 9 rfl) ?_
                    refine lv_iload_n hx hb dX6_period_63 rfl (lv_at hl 2 rfl) ?_
                    refine lv_icmp_ge (tgt := 255) hx hb dX6_period_64 (by decide) (fun c_64 => ?_) (fun c_64 => ?_)
                    · skip
                      refine lv_iload hx hb dX6_period_255 (lv_at hl 5 rfl) ?_
                      refine lv_iload hx hb dX6_period_257 (lv_at hl 6 rfl) ?_
                      refine lv_iload hx hb dX6_period_259 (lv_at hl 7 rfl) ?_
                      refine lv_iload hx hb dX6_period_261 (lv_at hl 8 rfl) ?_
                      refine kSI (va_runS (As := [.int lt, .int lb, .int mt, .int mb]) (rest := []) ⟨hx, hb, hml, hown, hts⟩ (c_X6_isLess l D cI cB lt lb mt mb  _) (va_cwS 4 hts gX6_period_X6_isLess rfl rfl rfl (by decide +kernel) ⟨Nat.le_of_ble_eq_true rfl, Nat.le_of_ble_eq_true rfl⟩) (preS_nil hK hN) rfl rfl hl.1 rfl (lv_room (Nat.le_of_ble_eq_true rfl)) dX6_period_263 ⟨Nat.zero_le _, Nat.zero_le _⟩) ?_
                      refine lv_if_ne (tgt := 271) hx hb dX6_period_266 (by decide) (fun c_266 => ?_) (fun c_266 => ?_)
                      · skip
                        refine lv_iload hx hb dX6_period_271 (lv_at hl 5 rfl) ?_
                        refine lv_iload hx hb dX6_period_273 (lv_at hl 6 rfl) ?_
                        refine kSI (va_runS (As := [.int lt, .int lb]) (rest := []) ⟨hx, hb, hml, hown, hts⟩ (c_X6_common l D cI cB lt lb  _) (va_cwS 2 hts gX6_period_X6_common rfl rfl rfl (by decide +kernel) ⟨Nat.le_of_ble_eq_true rfl, Nat.le_of_ble_eq_true rfl⟩) (preS_nil hK hN) rfl rfl hl.1 rfl (lv_room (Nat.le_of_ble_eq_true rfl)) dX6_period_275 ⟨Nat.zero_le _, Nat.zero_le _⟩) ?_
                        refine lv_istore (lv' := [(9, .int (gcdG (lb.toInt.toNat + 1) lt lb)), (0, .ref (A 0)), (1, .int 0), (2, .int (nI M)), (3, .int pt), (4, .int (nI (1510 * 0))), (5, .int lt), (6, .int lb), (7, .int mt), (8, .int mb)]) hx hb dX6_period_278 hl (by decide) rfl (fun ls hl => ?_)
                        refine lv_iload hx hb dX6_period_280 (lv_at hl 8 rfl) ?_
                        refine lv_iload hx hb dX6_period_282 (lv_at hl 9 rfl) ?_
                        refine kSI (va_runS (As := [.int mt, .int mb]) (rest := []) ⟨hx, hb, hml, hown, hts⟩ (c_X6_common l D cI cB mt mb  _) (va_cwS 2 hts gX6_period_X6_common rfl rfl rfl (by decide +kernel) ⟨Nat.le_of_ble_eq_true rfl, Nat.le_of_ble_eq_true rfl⟩) (preS_nil hK hN) rfl rfl hl.1 rfl (lv_room (Nat.le_of_ble_eq_true rfl)) dX6_period_284 ⟨Nat.zero_le _, Nat.zero_le _⟩) ?_
                        refine lv_istore (lv' := [(10, .int (gcdG (mb.toInt.toNat + 1) mt mb)), (9, .int (gcdG (lb.toInt.toNat + 1) lt lb)), (0, .ref (A 0)), (1, .int 0), (2, .int (nI M)), (3, .int pt), (4, .int (nI (1510 * 0))), (5, .int lt), (6, .int lb), (7, .int mt), (8, .int mb)]) hx hb dX6_period_287 hl (by decide) rfl (fun ls hl => ?_)
                        refine lv_iload_n hx hb dX6_period_289 rfl (lv_at hl 5 rfl) ?_
                        refine lv_if_ne (tgt := 301) hx hb dX6_period_290 (by decide) (fun c_290 => ?_) (fun c_290 => ?_)
                        · skip
                          refine lv_iload_n hx hb dX6_period_301 rfl (lv_at hl 5 rfl) ?_
                          refine lv_iconst (v := 1) hx hb dX6_period_302 (by decide) ?_
                          refine lv_icmp_ne (tgt := 314) hx hb dX6_period_303 (by decide) (fun c_303 => ?_) (fun c_303 => ?_)
                          · skip
                            refine lv_iload_n hx hb dX6_period_314 rfl (lv_at hl 5 rfl) ?_
                            refine lv_iconst (v := 2) hx hb dX6_period_315 (by decide) ?_
                            refine lv_icmp_ne (tgt := 327) hx hb dX6_period_316 (by decide) (fun c_316 => ?_) (fun c_316 => ?_)
                            · skip
                              refine lv_iload hx hb dX6_period_327 (lv_at hl 10 rfl) ?_
                              refine lv_iload hx hb dX6_period_329 (lv_at hl 0 rfl) ?_
                              refine lv_idiv hx hb dX6_period_331 (gcdG_pos _ _ _ (Nat.lt_succ_self _) hmb) ?_
                              exact hE _ _ _ (by rw [rdV_0]; unfold periodM; rw [if_neg c_9, if_neg c_15, if_neg c_19, if_neg c_24, if_pos c_33, nI_clamp hM31, perM_eq (by rw [← hq, show i = M by have h7 := (nI_leI (by omega) (by omega)).mp c_64; omega])]; unfold cutM; rw [if_neg c_266, if_neg c_290, if_neg c_303, if_neg c_316]) rfl dX6_period_332
                            · skip
                              refine lv_iload hx hb dX6_period_319 (lv_at hl 9 rfl) ?_
                              refine lv_iload hx hb dX6_period_321 (lv_at hl 0 rfl) ?_
                              refine lv_idiv hx hb dX6_period_323 (gcdG_pos _ _ _ (Nat.lt_succ_self _) hmb) ?_
                              refine lv_goto (tgt := 332) hx hb dX6_period_324 (by decide) ?_
                              exact hE _ _ _ (by rw [rdV_0]; unfold periodM; rw [if_neg c_9, if_neg c_15, if_neg c_19, if_neg c_24, if_pos c_33, nI_clamp hM31, perM_eq (by rw [← hq, show i = M by have h7 := (nI_leI (by omega) (by omega)).mp c_64; omega])]; unfold cutM; rw [if_neg c_266, if_neg c_290, if_neg c_303, if_pos c_316]) rfl dX6_period_332
                          · skip
                            refine lv_iload hx hb dX6_period_306 (lv_at hl 8 rfl) ?_
                            refine lv_iload hx hb dX6_period_308 (lv_at hl 1 rfl) ?_
                            refine lv_idiv hx hb dX6_period_310 (gcdG_pos _ _ _ (Nat.lt_succ_self _) hlb) ?_
                            refine lv_goto (tgt := 332) hx hb dX6_period_311 (by decide) ?_
                            exact hE _ _ _ (by rw [rdV_0]; unfold periodM; rw [if_neg c_9, if_neg c_15, if_neg c_19, if_neg c_24, if_pos c_33, nI_clamp hM31, perM_eq (by rw [← hq, show i = M by have h7 := (nI_leI (by omega) (by omega)).mp c_64; omega])]; unfold cutM; rw [if_neg c_266, if_neg c_290, if_pos c_303]) rfl dX6_period_332
                        · skip
                          refine lv_iload hx hb dX6_period_293 (lv_at hl 7 rfl) ?_
                          refine lv_iload hx hb dX6_period_295 (lv_at hl 1 rfl) ?_
                          refine lv_idiv hx hb dX6_period_297 (gcdG_pos _ _ _ (Nat.lt_succ_self _) hlb) ?_
                          refine lv_goto (tgt := 332) hx hb dX6_period_298 (by decide) ?_
                          exact hE _ _ _ (by rw [rdV_0]; unfold periodM; rw [if_neg c_9, if_neg c_15, if_neg c_19, if_neg c_24, if_pos c_33, nI_clamp hM31, perM_eq (by rw [← hq, show i = M by have h7 := (nI_leI (by omega) (by omega)).mp c_64; omega])]; unfold cutM; rw [if_neg c_266, if_pos c_290]) rfl dX6_period_332
                      · skip
                        refine lv_iconst (v := -1) hx hb dX6_period_269 (by decide) ?_
                        exact hE _ _ _ (by rw [rdV_0]; unfold periodM; rw [if_neg c_9, if_neg c_15, if_neg c_19, if_neg c_24, if_pos c_33, nI_clamp hM31, perM_eq (by rw [← hq, show i = M by have h7 := (nI_leI (by omega) (by omega)).mp c_64; omega])]; unfold cutM; rw [if_pos c_266]) rfl dX6_period_270
                    · skip
                      have hlt : i < M := lt_of_nI (n := M) (by omega) c_64
                      have hli := (lat_in (Int32.not_lt.mp (hlat (M - 1 - i) (by omega)))).2
                      refine lv_aload_n hx hb dX6_period_67 rfl (lv_at hl 0 rfl) ?_
                      refine x_get (v := .ref (A 1)) (C := RX6) (T := TX6) (N := 9) hx hb hts hi6 hown hK hP 0 rfl rfl 0 (by decide) (hts (.fieldLink RX6 7 "PulseWheelModel" "now" "[I") (by decide +kernel)) rfl rfl dX6_period_68 ?_
                      refine lv_iload hx hb dX6_period_71 (lv_at hl 4 rfl) ?_
                      refine lv_sipush (v := 320) hx hb dX6_period_73 (by decide) ?_
                      refine lv_iadd hx hb dX6_period_76 ?_
                      refine lv_aload_n hx hb dX6_period_77 rfl (lv_at hl 0 rfl) ?_
                      refine lv_iload hx hb dX6_period_78 (lv_at hl 4 rfl) ?_
                      refine lv_iload_n hx hb dX6_period_80 rfl (lv_at hl 2 rfl) ?_
                      refine lv_iconst (v := 1) hx hb dX6_period_81 (by decide) ?_
                      refine lv_isub hx hb dX6_period_82 ?_
                      refine lv_iload hx hb dX6_period_83 (lv_at hl 9 rfl) ?_
                      refine lv_isub hx hb dX6_period_85 ?_
                      refine x_top (y := nI (M - 1 - i)) (sub1i (by omega)) ?_
                      refine kSI (va_runV (As := [.int (nI (1510 * 0)), .int (nI (M - 1 - i))]) (rest := [.int ((nI (1510 * 0)) + 320), .ref (A 1)]) ⟨hx, hb, hml, hown, hts⟩ (c_X6_latest l D cI cB A r (nI (M - 1 - i)) (1510 * 0) (by decide) _) (cwV 2 hts gX6_period_X6_latest rfl rfl rfl (by decide +kernel) ⟨Nat.le_of_ble_eq_true rfl, Nat.le_of_ble_eq_true rfl⟩) (preV_cut hP hD hK hN (ci := 6) rfl 0 rfl [0, 1, 2, 3, 4, 5] (by decide) rfl) rfl rfl hl.1 rfl (lv_room (Nat.le_of_ble_eq_true rfl)) dX6_period_86 ⟨Nat.zero_le _, Nat.zero_le _⟩) ?_
                      refine x_top (y := nI (latN (r 1 ((1510 * 0) + 9)) (nI (M - 1 - i)))) ((lat_in (Int32.not_lt.mp (hlat (M - 1 - i) (by omega)))).1) ?_
                      refine lv_iadd hx hb dX6_period_89 ?_
                      have hq_1 := ix_in (i := (((nI (1510 * 0)) + 320) + (nI (latN (r 1 ((1510 * 0) + 9)) (nI (M - 1 - i)))))) (n := 3020) ((1510 * 0) + 320 + (latN (r 1 ((1510 * 0) + 9)) (nI (M - 1 - i)))) (nIs2 (1510 * 0) 320 (latN (r 1 ((1510 * 0) + 9)) (nI (M - 1 - i)))) (by omega) (by decide)
                      refine x_ild (v := r 1 ((1510 * 0) + 320 + (latN (r 1 ((1510 * 0) + 9)) (nI (M - 1 - i))))) hx hb hK hP 1 rfl hq_1.1 (by rw [hq_1.2]) dX6_period_90 ?_
                      refine x_top (y := (tauM r (1510 * 0) M) i) (rfl) ?_
                      refine lv_istore (lv' := [(10, .int ((tauM r (1510 * 0) M) i)), (0, .ref (A 0)), (1, .int 0), (2, .int (nI M)), (3, .int pt), (4, .int (nI (1510 * 0))), (5, .int lt), (6, .int lb), (7, .int mt), (8, .int mb), (9, .int (nI i))]) hx hb dX6_period_91 hl (by decide) rfl (fun ls hl => ?_)
                      refine lv_iload hx hb dX6_period_93 (lv_at hl 6 rfl) ?_
                      refine lv_iload hx hb dX6_period_95 (lv_at hl 7 rfl) ?_
                      refine lv_aload_n hx hb dX6_period_97 rfl (lv_at hl 1 rfl) ?_
                      refine x_get (v := .int (r 0 4)) (C := RX6) (T := TX6) (N := 9) hx hb hts hi6 hown hK hP 0 rfl rfl 4 (by decide) (hts (.fieldLink RX6 37 "PulseWheelModel" "ticks" "I") (by decide +kernel)) rfl rfl dX6_period_98 ?_
                      refine lv_iload hx hb dX6_period_101 (lv_at hl 0 rfl) ?_
                      refine lv_isub hx hb dX6_period_103 ?_
                      refine lv_iload_n hx hb dX6_period_104 rfl (lv_at hl 3 rfl) ?_
                      refine lv_iload hx hb dX6_period_105 (lv_at hl 10 rfl) ?_
                      refine lv_isub hx hb dX6_period_107 ?_
                      refine x_top (y := nI (M - i)) (pk_sub (by omega)) ?_
                      refine kSI (va_runS (As := [.int lt, .int lb, .int ((r 0 4) - ((tauM r (1510 * 0) M) i)), .int (nI (M - i))]) (rest := []) ⟨hx, hb, hml, hown, hts⟩ (c_X6_isLess l D cI cB lt lb ((r 0 4) - ((tauM r (1510 * 0) M) i)) (nI (M - i))  _) (va_cwS 4 hts gX6_period_X6_isLess rfl rfl rfl (by decide +kernel) ⟨Nat.le_of_ble_eq_true rfl, Nat.le_of_ble_eq_true rfl⟩) (preS_nil hK hN) rfl rfl hl.1 rfl (lv_room (Nat.le_of_ble_eq_true rfl)) dX6_period_108 ⟨Nat.zero_le _, Nat.zero_le _⟩) ?_
                      have jn : ∀ (lt1 : Int32) (lb1 : Int32), (raiseQ (lt, lb, mt, mb) (r 0 4 - (tauM r (1510 * 0) M) i) (nI (M - i)) = (lt1, lb1, mt, mb)) → (¬ lb1 ≤ 0) → ∀ (ls : Array Slot), lv_has ls 13 [(0, .ref (A 0)), (1, .int 0), (2, .int (nI M)), (3, .int pt), (4, .int (nI (1510 * 0))), (5, .int lt1), (6, .int lb1), (7, .int mt), (8, .int mb), (9, .int (nI i)), (10, .int ((tauM r (1510 * 0) M) i))] → W p l e rm_X6_period s m args below meth c s.heap [] 0 0 Q (F0 m 129 ls []) := by
                        intro lt1 lb1 hra hlb1 ls hl
                        refine lv_iload hx hb dX6_period_129 (lv_at hl 9 rfl) ?_
                        refine lv_iconst (v := 1) hx hb dX6_period_131 (by decide) ?_
                        refine lv_iadd hx hb dX6_period_132 ?_
                        refine x_top (y := nI (i + 1)) (nI_1 i) ?_
                        refine lv_istore (lv' := [(11, .int (nI (i + 1))), (0, .ref (A 0)), (1, .int 0), (2, .int (nI M)), (3, .int pt), (4, .int (nI (1510 * 0))), (5, .int lt1), (6, .int lb1), (7, .int mt), (8, .int mb), (9, .int (nI i)), (10, .int ((tauM r (1510 * 0) M) i))]) hx hb dX6_period_133 hl (by decide) rfl (fun ls hl => ?_)
                        have lq : ∀ (fu2 : Nat) (j : Nat) (lt2 : Int32) (lb2 : Int32) (mt2 : Int32) (mb2 : Int32), (i + 1 ≤ j) → (j ≤ M) → (M < j + fu2) → (innerQ (tauM r (1510 * 0) M) i (j - (i + 1)) (lt1, lb1, mt, mb) = (lt2, lb2, mt2, mb2)) → (¬ lb2 ≤ 0) → (¬ mb2 ≤ 0) → ∀ (ls : Array Slot), lv_has ls 13 [(0, .ref (A 0)), (1, .int 0), (2, .int (nI M)), (3, .int pt), (4, .int (nI (1510 * 0))), (5, .int lt2), (6, .int lb2), (7, .int mt2), (8, .int mb2), (9, .int (nI i)), (10, .int ((tauM r (1510 * 0) M) i)), (11, .int (nI j))] → W p l e rm_X6_period s m args below meth c s.heap [] 0 0 Q (F0 m 135 ls []) := by
                          intro fu2
                          induction fu2 with
                          | zero => intro j lt2 lb2 mt2 mb2 hj1 hj hmj hq2 hlb2 hmb2 ls hl; exact absurd hmj (by omega)
                          | succ fu2 ih2 =>
                            intro j lt2 lb2 mt2 mb2 hj1 hj hmj hq2 hlb2 hmb2 ls hl
                            refine lv_iload hx hb dX6_period_135 (lv_at hl 11 rfl) ?_
                            refine lv_iload_n hx hb dX6_period_137 rfl (lv_at hl 2 rfl) ?_
                            refine lv_icmp_ge (tgt := 249) hx hb dX6_period_138 (by decide) (fun c_138 => ?_) (fun c_138 => ?_)
                            · skip
                              refine lv_iinc (v := nI (i + 1)) (lv' := [(9, .int (nI (i + 1))), (0, .ref (A 0)), (1, .int 0), (2, .int (nI M)), (3, .int pt), (4, .int (nI (1510 * 0))), (5, .int lt2), (6, .int lb2), (7, .int mt2), (8, .int mb2), (10, .int ((tauM r (1510 * 0) M) i)), (11, .int (nI j))]) hx hb dX6_period_249 hl (k := 9) rfl (nI_1 i) (by decide) rfl (fun ls hl => ?_)
                              refine lv_goto (tgt := 61) hx hb dX6_period_252 (by decide) ?_
                              exact ih (i + 1) lt2 lb2 mt2 mb2 (by omega) (by omega) (by rw [show foldQ (tauM r (1510 * 0) M) (r 0 4) M (i + 1) (0, 1, 1000000, 1) = outQ (tauM r (1510 * 0) M) (r 0 4) M i (foldQ (tauM r (1510 * 0) M) (r 0 4) M i (0, 1, 1000000, 1)) from rfl, hq, ← hq2, show j = M by have h7 := (nI_leI (by omega) (by omega)).mp c_138; omega]; unfold outQ; rw [hra]) (hlb2) (hmb2) ls (lv_sub hl [1, 2, 3, 4, 5, 6, 7, 8, 9, 0] rfl)
                            · skip
                              have hlt2 : j < M := lt_of_nI (n := M) (by omega) c_138
                              have hlj := (lat_in (Int32.not_lt.mp (hlat (M - 1 - j) (by omega)))).2
                              refine lv_aload_n hx hb dX6_period_141 rfl (lv_at hl 0 rfl) ?_
                              refine x_get (v := .ref (A 1)) (C := RX6) (T := TX6) (N := 9) hx hb hts hi6 hown hK hP 0 rfl rfl 0 (by decide) (hts (.fieldLink RX6 7 "PulseWheelModel" "now" "[I") (by decide +kernel)) rfl rfl dX6_period_142 ?_
                              refine lv_iload hx hb dX6_period_145 (lv_at hl 4 rfl) ?_
                              refine lv_sipush (v := 320) hx hb dX6_period_147 (by decide) ?_
                              refine lv_iadd hx hb dX6_period_150 ?_
                              refine lv_aload_n hx hb dX6_period_151 rfl (lv_at hl 0 rfl) ?_
                              refine lv_iload hx hb dX6_period_152 (lv_at hl 4 rfl) ?_
                              refine lv_iload_n hx hb dX6_period_154 rfl (lv_at hl 2 rfl) ?_
                              refine lv_iconst (v := 1) hx hb dX6_period_155 (by decide) ?_
                              refine lv_isub hx hb dX6_period_156 ?_
                              refine lv_iload hx hb dX6_period_157 (lv_at hl 11 rfl) ?_
                              refine lv_isub hx hb dX6_period_159 ?_
                              refine x_top (y := nI (M - 1 - j)) (sub1i (by omega)) ?_
                              refine kSI (va_runV (As := [.int (nI (1510 * 0)), .int (nI (M - 1 - j))]) (rest := [.int ((nI (1510 * 0)) + 320), .ref (A 1)]) ⟨hx, hb, hml, hown, hts⟩ (c_X6_latest l D cI cB A r (nI (M - 1 - j)) (1510 * 0) (by decide) _) (cwV 2 hts gX6_period_X6_latest rfl rfl rfl (by decide +kernel) ⟨Nat.le_of_ble_eq_true rfl, Nat.le_of_ble_eq_true rfl⟩) (preV_cut hP hD hK hN (ci := 6) rfl 0 rfl [0, 1, 2, 3, 4, 5] (by decide) rfl) rfl rfl hl.1 rfl (lv_room (Nat.le_of_ble_eq_true rfl)) dX6_period_160 ⟨Nat.zero_le _, Nat.zero_le _⟩) ?_
                              refine x_top (y := nI (latN (r 1 ((1510 * 0) + 9)) (nI (M - 1 - j)))) ((lat_in (Int32.not_lt.mp (hlat (M - 1 - j) (by omega)))).1) ?_
                              refine lv_iadd hx hb dX6_period_163 ?_
                              have hq_2 := ix_in (i := (((nI (1510 * 0)) + 320) + (nI (latN (r 1 ((1510 * 0) + 9)) (nI (M - 1 - j)))))) (n := 3020) ((1510 * 0) + 320 + (latN (r 1 ((1510 * 0) + 9)) (nI (M - 1 - j)))) (nIs2 (1510 * 0) 320 (latN (r 1 ((1510 * 0) + 9)) (nI (M - 1 - j)))) (by omega) (by decide)
                              refine x_ild (v := r 1 ((1510 * 0) + 320 + (latN (r 1 ((1510 * 0) + 9)) (nI (M - 1 - j))))) hx hb hK hP 1 rfl hq_2.1 (by rw [hq_2.2]) dX6_period_164 ?_
                              refine x_top (y := (tauM r (1510 * 0) M) j) (rfl) ?_
                              refine lv_istore (lv' := [(12, .int ((tauM r (1510 * 0) M) j)), (0, .ref (A 0)), (1, .int 0), (2, .int (nI M)), (3, .int pt), (4, .int (nI (1510 * 0))), (5, .int lt2), (6, .int lb2), (7, .int mt2), (8, .int mb2), (9, .int (nI i)), (10, .int ((tauM r (1510 * 0) M) i)), (11, .int (nI j))]) hx hb dX6_period_165 hl (by decide) rfl (fun ls hl => ?_)
                              refine lv_iload hx hb dX6_period_167 (lv_at hl 6 rfl) ?_
                              refine lv_iload hx hb dX6_period_169 (lv_at hl 7 rfl) ?_
                              refine lv_iload hx hb dX6_period_171 (lv_at hl 0 rfl) ?_
                              refine lv_iload hx hb dX6_period_173 (lv_at hl 11 rfl) ?_
                              refine lv_isub hx hb dX6_period_175 ?_
                              refine lv_iconst (v := 1) hx hb dX6_period_176 (by decide) ?_
                              refine lv_isub hx hb dX6_period_177 ?_
                              refine lv_iload hx hb dX6_period_178 (lv_at hl 12 rfl) ?_
                              refine lv_iload hx hb dX6_period_180 (lv_at hl 10 rfl) ?_
                              refine lv_isub hx hb dX6_period_182 ?_
                              refine x_top (y := nI (j - i)) (pk_sub (by omega)) ?_
                              refine kSI (va_runS (As := [.int lt2, .int lb2, .int ((((tauM r (1510 * 0) M) j) - ((tauM r (1510 * 0) M) i)) - 1), .int (nI (j - i))]) (rest := []) ⟨hx, hb, hml, hown, hts⟩ (c_X6_isLess l D cI cB lt2 lb2 ((((tauM r (1510 * 0) M) j) - ((tauM r (1510 * 0) M) i)) - 1) (nI (j - i))  _) (va_cwS 4 hts gX6_period_X6_isLess rfl rfl rfl (by decide +kernel) ⟨Nat.le_of_ble_eq_true rfl, Nat.le_of_ble_eq_true rfl⟩) (preS_nil hK hN) rfl rfl hl.1 rfl (lv_room (Nat.le_of_ble_eq_true rfl)) dX6_period_183 ⟨Nat.zero_le _, Nat.zero_le _⟩) ?_
                              have jm : ∀ (lt3 : Int32) (lb3 : Int32), (raiseQ (lt2, lb2, mt2, mb2) ((tauM r (1510 * 0) M) j - (tauM r (1510 * 0) M) i - 1) (nI (j - i)) = (lt3, lb3, mt2, mb2)) → (¬ lb3 ≤ 0) → ∀ (ls : Array Slot), lv_has ls 13 [(0, .ref (A 0)), (1, .int 0), (2, .int (nI M)), (3, .int pt), (4, .int (nI (1510 * 0))), (5, .int lt3), (6, .int lb3), (7, .int mt2), (8, .int mb2), (9, .int (nI i)), (10, .int ((tauM r (1510 * 0) M) i)), (11, .int (nI j)), (12, .int ((tauM r (1510 * 0) M) j))] → W p l e rm_X6_period s m args below meth c s.heap [] 0 0 Q (F0 m 205 ls []) := by
                                intro lt3 lb3 hrb hlb3 ls hl
                                refine lv_iload hx hb dX6_period_205 (lv_at hl 12 rfl) ?_
                                refine lv_iload hx hb dX6_period_207 (lv_at hl 10 rfl) ?_
                                refine lv_isub hx hb dX6_period_209 ?_
                                refine lv_iconst (v := 1) hx hb dX6_period_210 (by decide) ?_
                                refine lv_iadd hx hb dX6_period_211 ?_
                                refine lv_iload hx hb dX6_period_212 (lv_at hl 11 rfl) ?_
                                refine lv_iload hx hb dX6_period_214 (lv_at hl 9 rfl) ?_
                                refine lv_isub hx hb dX6_period_216 ?_
                                refine x_top (y := nI (j - i)) (pk_sub (by omega)) ?_
                                refine lv_iload hx hb dX6_period_217 (lv_at hl 7 rfl) ?_
                                refine lv_iload hx hb dX6_period_219 (lv_at hl 8 rfl) ?_
                                refine kSI (va_runS (As := [.int ((((tauM r (1510 * 0) M) j) - ((tauM r (1510 * 0) M) i)) + 1), .int (nI (j - i)), .int mt2, .int mb2]) (rest := []) ⟨hx, hb, hml, hown, hts⟩ (c_X6_isLess l D cI cB ((((tauM r (1510 * 0) M) j) - ((tauM r (1510 * 0) M) i)) + 1) (nI (j - i)) mt2 mb2  _) (va_cwS 4 hts gX6_period_X6_isLess rfl rfl rfl (by decide +kernel) ⟨Nat.le_of_ble_eq_true rfl, Nat.le_of_ble_eq_true rfl⟩) (preS_nil hK hN) rfl rfl hl.1 rfl (lv_room (Nat.le_of_ble_eq_true rfl)) dX6_period_221 ⟨Nat.zero_le _, Nat.zero_le _⟩) ?_
                                refine lv_if_eq (tgt := 243) hx hb dX6_period_224 (by decide) (fun c_224 => ?_) (fun c_224 => ?_)
                                · skip
                                  refine lv_iinc (v := nI (j + 1)) (lv' := [(11, .int (nI (j + 1))), (0, .ref (A 0)), (1, .int 0), (2, .int (nI M)), (3, .int pt), (4, .int (nI (1510 * 0))), (5, .int lt3), (6, .int lb3), (7, .int mt2), (8, .int mb2), (9, .int (nI i)), (10, .int ((tauM r (1510 * 0) M) i)), (12, .int ((tauM r (1510 * 0) M) j))]) hx hb dX6_period_243 hl (k := 11) rfl (nI_1 j) (by decide) rfl (fun ls hl => ?_)
                                  refine lv_goto (tgt := 135) hx hb dX6_period_246 (by decide) ?_
                                  exact ih2 (j + 1) lt3 lb3 mt2 mb2 (by omega) (by omega) (by omega) (by rw [innerQ_s _ _ _ _ hj1, hq2]; unfold inQ; rw [hrb, lowerQ_p c_224]) (hlb3) (hmb2) ls (lv_sub hl [1, 2, 3, 4, 5, 6, 7, 8, 9, 10, 11, 0] rfl)
                                · skip
                                  refine lv_iload hx hb dX6_period_227 (lv_at hl 12 rfl) ?_
                                  refine lv_iload hx hb dX6_period_229 (lv_at hl 10 rfl) ?_
                                  refine lv_isub hx hb dX6_period_231 ?_
                                  refine lv_iconst (v := 1) hx hb dX6_period_232 (by decide) ?_
                                  refine lv_iadd hx hb dX6_period_233 ?_
                                  refine lv_istore (lv' := [(7, .int ((((tauM r (1510 * 0) M) j) - ((tauM r (1510 * 0) M) i)) + 1)), (0, .ref (A 0)), (1, .int 0), (2, .int (nI M)), (3, .int pt), (4, .int (nI (1510 * 0))), (5, .int lt3), (6, .int lb3), (8, .int mb2), (9, .int (nI i)), (10, .int ((tauM r (1510 * 0) M) i)), (11, .int (nI j)), (12, .int ((tauM r (1510 * 0) M) j))]) hx hb dX6_period_234 hl (by decide) rfl (fun ls hl => ?_)
                                  refine lv_iload hx hb dX6_period_236 (lv_at hl 11 rfl) ?_
                                  refine lv_iload hx hb dX6_period_238 (lv_at hl 9 rfl) ?_
                                  refine lv_isub hx hb dX6_period_240 ?_
                                  refine x_top (y := nI (j - i)) (pk_sub (by omega)) ?_
                                  refine lv_istore (lv' := [(8, .int (nI (j - i))), (7, .int ((((tauM r (1510 * 0) M) j) - ((tauM r (1510 * 0) M) i)) + 1)), (0, .ref (A 0)), (1, .int 0), (2, .int (nI M)), (3, .int pt), (4, .int (nI (1510 * 0))), (5, .int lt3), (6, .int lb3), (9, .int (nI i)), (10, .int ((tauM r (1510 * 0) M) i)), (11, .int (nI j)), (12, .int ((tauM r (1510 * 0) M) j))]) hx hb dX6_period_241 hl (by decide) rfl (fun ls hl => ?_)
                                  refine lv_iinc (v := nI (j + 1)) (lv' := [(11, .int (nI (j + 1))), (8, .int (nI (j - i))), (7, .int ((((tauM r (1510 * 0) M) j) - ((tauM r (1510 * 0) M) i)) + 1)), (0, .ref (A 0)), (1, .int 0), (2, .int (nI M)), (3, .int pt), (4, .int (nI (1510 * 0))), (5, .int lt3), (6, .int lb3), (9, .int (nI i)), (10, .int ((tauM r (1510 * 0) M) i)), (12, .int ((tauM r (1510 * 0) M) j))]) hx hb dX6_period_243 hl (k := 11) rfl (nI_1 j) (by decide) rfl (fun ls hl => ?_)
                                  refine lv_goto (tgt := 135) hx hb dX6_period_246 (by decide) ?_
                                  exact ih2 (j + 1) lt3 lb3 ((((tauM r (1510 * 0) M) j) - ((tauM r (1510 * 0) M) i)) + 1) (nI (j - i)) (by omega) (by omega) (by omega) (by rw [innerQ_s _ _ _ _ hj1, hq2]; unfold inQ; rw [hrb, lowerQ_n c_224]) (hlb3) (nI_npos (by omega) (by omega)) ls (lv_sub hl [3, 4, 5, 6, 7, 8, 9, 2, 1, 10, 11, 0] rfl)
                              refine lv_if_eq (tgt := 205) hx hb dX6_period_186 (by decide) (fun c_186 => ?_) (fun c_186 => ?_)
                              · skip
                                exact jm lt2 lb2 (raiseQ_p c_186) (hlb2) ls (lv_sub hl [1, 2, 3, 4, 5, 6, 7, 8, 9, 10, 11, 12, 0] rfl)
                              · skip
                                refine lv_iload hx hb dX6_period_189 (lv_at hl 0 rfl) ?_
                                refine lv_iload hx hb dX6_period_191 (lv_at hl 11 rfl) ?_
                                refine lv_isub hx hb dX6_period_193 ?_
                                refine lv_iconst (v := 1) hx hb dX6_period_194 (by decide) ?_
                                refine lv_isub hx hb dX6_period_195 ?_
                                refine lv_istore (lv' := [(5, .int ((((tauM r (1510 * 0) M) j) - ((tauM r (1510 * 0) M) i)) - 1)), (12, .int ((tauM r (1510 * 0) M) j)), (0, .ref (A 0)), (1, .int 0), (2, .int (nI M)), (3, .int pt), (4, .int (nI (1510 * 0))), (6, .int lb2), (7, .int mt2), (8, .int mb2), (9, .int (nI i)), (10, .int ((tauM r (1510 * 0) M) i)), (11, .int (nI j))]) hx hb dX6_period_196 hl (by decide) rfl (fun ls hl => ?_)
                                refine lv_iload hx hb dX6_period_198 (lv_at hl 12 rfl) ?_
                                refine lv_iload hx hb dX6_period_200 (lv_at hl 10 rfl) ?_
                                refine lv_isub hx hb dX6_period_202 ?_
                                refine x_top (y := nI (j - i)) (pk_sub (by omega)) ?_
                                refine lv_istore (lv' := [(6, .int (nI (j - i))), (5, .int ((((tauM r (1510 * 0) M) j) - ((tauM r (1510 * 0) M) i)) - 1)), (12, .int ((tauM r (1510 * 0) M) j)), (0, .ref (A 0)), (1, .int 0), (2, .int (nI M)), (3, .int pt), (4, .int (nI (1510 * 0))), (7, .int mt2), (8, .int mb2), (9, .int (nI i)), (10, .int ((tauM r (1510 * 0) M) i)), (11, .int (nI j))]) hx hb dX6_period_203 hl (by decide) rfl (fun ls hl => ?_)
                                exact jm ((((tauM r (1510 * 0) M) j) - ((tauM r (1510 * 0) M) i)) - 1) (nI (j - i)) (raiseQ_n c_186) (nI_npos (by omega) (by omega)) ls (lv_sub hl [3, 4, 5, 6, 7, 1, 0, 8, 9, 10, 11, 12, 2] rfl)
                        exact lq (M + 1) (i + 1) lt1 lb1 mt mb (Nat.le_refl _) (by omega) (by omega) (by rw [Nat.sub_self]; rfl) (hlb1) (hmb) ls (lv_sub hl [1, 2, 3, 4, 5, 6, 7, 8, 9, 10, 11, 0] rfl)
                      refine lv_if_eq (tgt := 129) hx hb dX6_period_111 (by decide) (fun c_111 => ?_) (fun c_111 => ?_)
                      · skip
                        exact jn lt lb (raiseQ_p c_111) (hlb) ls (lv_sub hl [1, 2, 3, 4, 5, 6, 7, 8, 9, 10, 0] rfl)
                      · skip
                        refine lv_aload_n hx hb dX6_period_114 rfl (lv_at hl 1 rfl) ?_
                        refine x_get (v := .int (r 0 4)) (C := RX6) (T := TX6) (N := 9) hx hb hts hi6 hown hK hP 0 rfl rfl 4 (by decide) (hts (.fieldLink RX6 37 "PulseWheelModel" "ticks" "I") (by decide +kernel)) rfl rfl dX6_period_115 ?_
                        refine lv_iload hx hb dX6_period_118 (lv_at hl 0 rfl) ?_
                        refine lv_isub hx hb dX6_period_120 ?_
                        refine lv_istore (lv' := [(5, .int ((r 0 4) - ((tauM r (1510 * 0) M) i))), (10, .int ((tauM r (1510 * 0) M) i)), (0, .ref (A 0)), (1, .int 0), (2, .int (nI M)), (3, .int pt), (4, .int (nI (1510 * 0))), (6, .int lb), (7, .int mt), (8, .int mb), (9, .int (nI i))]) hx hb dX6_period_121 hl (by decide) rfl (fun ls hl => ?_)
                        refine lv_iload_n hx hb dX6_period_123 rfl (lv_at hl 4 rfl) ?_
                        refine lv_iload hx hb dX6_period_124 (lv_at hl 10 rfl) ?_
                        refine lv_isub hx hb dX6_period_126 ?_
                        refine x_top (y := nI (M - i)) (pk_sub (by omega)) ?_
                        refine lv_istore (lv' := [(6, .int (nI (M - i))), (5, .int ((r 0 4) - ((tauM r (1510 * 0) M) i))), (10, .int ((tauM r (1510 * 0) M) i)), (0, .ref (A 0)), (1, .int 0), (2, .int (nI M)), (3, .int pt), (4, .int (nI (1510 * 0))), (7, .int mt), (8, .int mb), (9, .int (nI i))]) hx hb dX6_period_127 hl (by decide) rfl (fun ls hl => ?_)
                        exact jn ((r 0 4) - ((tauM r (1510 * 0) M) i)) (nI (M - i)) (raiseQ_n c_111) (nI_npos (by omega) (by omega)) ls (lv_sub hl [3, 4, 5, 6, 7, 1, 0, 8, 9, 10, 2] rfl)
                exact lp (M + 1) 0 0 1 1000000 1 (Nat.zero_le _) (by omega) (rfl) (by decide) (by decide) ls (lv_sub hl [6, 7, 8, 9, 5, 4, 3, 2, 1, 0] rfl)
              · skip
                refine lv_iconst (v := -1) hx hb dX6_period_36 (by decide) ?_
                exact hE _ _ _ (by rw [rdV_0]; unfold periodM; rw [if_neg c_9, if_neg c_15, if_neg c_19, if_neg c_24, if_neg c_33]) rfl dX6_period_37
  by_cases c1 : rd = 1
  · subst c1
    refine lv_iload_n hx hb dX6_period_0 rfl (lv_at hl 1 rfl) ?_
    refine kSI (va_runS (As := [.int 1]) (rest := []) ⟨hx, hb, hml, hown, hts⟩ (c_X6_isReader l D cI cB 1  _) (va_cwS 1 hts gX6_period_X6_isReader rfl rfl rfl (by decide +kernel) ⟨Nat.le_of_ble_eq_true rfl, Nat.le_of_ble_eq_true rfl⟩) (preS_nil hK hN) rfl rfl hl.1 rfl (lv_room (Nat.le_of_ble_eq_true rfl)) dX6_period_1 ⟨Nat.zero_le _, Nat.zero_le _⟩) ?_
    refine lv_if_eq (tgt := 36) hx hb dX6_period_4 (by decide) (fun c_4 => ?_) (fun c_4 => ?_)
    · exact absurd c_4 (by decide)
    · skip
      refine lv_iload_n hx hb dX6_period_7 rfl (lv_at hl 2 rfl) ?_
      refine lv_iconst (v := 2) hx hb dX6_period_8 (by decide) ?_
      refine lv_icmp_lt (tgt := 36) hx hb dX6_period_9 (by decide) (fun c_9 => ?_) (fun c_9 => ?_)
      · skip
        refine lv_iconst (v := -1) hx hb dX6_period_36 (by decide) ?_
        exact hE _ _ _ (by rw [rdV_1]; unfold periodM; rw [if_pos c_9]) rfl dX6_period_37
      · skip
        refine lv_iload_n hx hb dX6_period_12 rfl (lv_at hl 2 rfl) ?_
        refine lv_bipush (v := 30) hx hb dX6_period_13 (by decide) ?_
        refine lv_icmp_gt (tgt := 36) hx hb dX6_period_15 (by decide) (fun c_15 => ?_) (fun c_15 => ?_)
        · skip
          refine lv_iconst (v := -1) hx hb dX6_period_36 (by decide) ?_
          exact hE _ _ _ (by rw [rdV_1]; unfold periodM; rw [if_neg c_9, if_pos c_15]) rfl dX6_period_37
        · skip
          refine lv_iload_n hx hb dX6_period_18 rfl (lv_at hl 3 rfl) ?_
          refine lv_if_lt (tgt := 36) hx hb dX6_period_19 (by decide) (fun c_19 => ?_) (fun c_19 => ?_)
          · skip
            refine lv_iconst (v := -1) hx hb dX6_period_36 (by decide) ?_
            exact hE _ _ _ (by rw [rdV_1]; unfold periodM; rw [if_neg c_9, if_neg c_15, if_pos c_19]) rfl dX6_period_37
          · skip
            refine lv_iload_n hx hb dX6_period_22 rfl (lv_at hl 3 rfl) ?_
            refine lv_iconst (v := 3) hx hb dX6_period_23 (by decide) ?_
            refine lv_icmp_gt (tgt := 36) hx hb dX6_period_24 (by decide) (fun c_24 => ?_) (fun c_24 => ?_)
            · skip
              refine lv_iconst (v := -1) hx hb dX6_period_36 (by decide) ?_
              exact hE _ _ _ (by rw [rdV_1]; unfold periodM; rw [if_neg c_9, if_neg c_15, if_neg c_19, if_pos c_24]) rfl dX6_period_37
            · skip
              refine lv_aload_n hx hb dX6_period_27 rfl (lv_at hl 0 rfl) ?_
              refine lv_iload_n hx hb dX6_period_28 rfl (lv_at hl 1 rfl) ?_
              refine kSI (va_runV (As := [.int 1]) (rest := []) ⟨hx, hb, hml, hown, hts⟩ (c_X6_row l D cI cB A r 1  _) (cwV 1 hts gX6_period_X6_row rfl rfl rfl (by decide +kernel) ⟨Nat.le_of_ble_eq_true rfl, Nat.le_of_ble_eq_true rfl⟩) (preV_cut hP hD hK hN (ci := 6) rfl 0 rfl [0, 1, 2, 3, 4, 5] (by decide) rfl) rfl rfl hl.1 rfl (lv_room (Nat.le_of_ble_eq_true rfl)) dX6_period_29 ⟨Nat.zero_le _, Nat.zero_le _⟩) ?_
              refine x_top (y := rowM r (1510 * 1)) (rdV_1 _ _ _) ?_
              refine lv_iload_n hx hb dX6_period_32 rfl (lv_at hl 2 rfl) ?_
              refine lv_icmp_ge (tgt := 38) hx hb dX6_period_33 (by decide) (fun c_33 => ?_) (fun c_33 => ?_)
              · skip
                obtain ⟨M, hM31, eM⟩ := nI_of (x := mm) (fun q => c_9 (Int32.lt_trans q (by decide)))
                subst eM
                have hM2 : 2 ≤ M := Nat.not_lt.mp (fun q => c_9 ((nI_ltI (b := 2) hM31 (by decide)).mpr q))
                have hM : M ≤ 30 := Nat.not_lt.mp (fun q => c_15 ((nI_ltI (a := 30) (by decide) hM31).mpr q))
                obtain ⟨n, hn2, hn⟩ := ok1.2.2
                have hMn := row_ge hn hn2 hM2 hM c_33
                have hlat := lat_nn hn hn2 hM hMn
                refine lv_sipush (v := 1510) hx hb dX6_period_38 (by decide) ?_
                refine lv_iload_n hx hb dX6_period_41 rfl (lv_at hl 1 rfl) ?_
                refine lv_imul hx hb dX6_period_42 ?_
                refine x_top (y := nI (1510 * 1)) (by decide) ?_
                refine lv_istore (lv' := [(4, .int (nI (1510 * 1))), (0, .ref (A 0)), (1, .int 1), (2, .int (nI M)), (3, .int pt)]) hx hb dX6_period_43 hl (by decide) rfl (fun ls hl => ?_)
                refine lv_iconst (v := 0) hx hb dX6_period_45 (by decide) ?_
                refine lv_istore (lv' := [(5, .int 0), (4, .int (nI (1510 * 1))), (0, .ref (A 0)), (1, .int 1), (2, .int (nI M)), (3, .int pt)]) hx hb dX6_period_46 hl (by decide) rfl (fun ls hl => ?_)
                refine lv_iconst (v := 1) hx hb dX6_period_48 (by decide) ?_
                refine lv_istore (lv' := [(6, .int 1), (5, .int 0), (4, .int (nI (1510 * 1))), (0, .ref (A 0)), (1, .int 1), (2, .int (nI M)), (3, .int pt)]) hx hb dX6_period_49 hl (by decide) rfl (fun ls hl => ?_)
                refine lv_ldc (v := 1000000) hx hb hown (hts (.constant RX6 69 (1000000)) (by decide +kernel)) dX6_period_51 ?_
                refine lv_istore (lv' := [(7, .int 1000000), (6, .int 1), (5, .int 0), (4, .int (nI (1510 * 1))), (0, .ref (A 0)), (1, .int 1), (2, .int (nI M)), (3, .int pt)]) hx hb dX6_period_53 hl (by decide) rfl (fun ls hl => ?_)
                refine lv_iconst (v := 1) hx hb dX6_period_55 (by decide) ?_
                refine lv_istore (lv' := [(8, .int 1), (7, .int 1000000), (6, .int 1), (5, .int 0), (4, .int (nI (1510 * 1))), (0, .ref (A 0)), (1, .int 1), (2, .int (nI M)), (3, .int pt)]) hx hb dX6_period_56 hl (by decide) rfl (fun ls hl => ?_)
                refine lv_iconst (v := 0) hx hb dX6_period_58 (by decide) ?_
                refine lv_istore (lv' := [(9, .int 0), (8, .int 1), (7, .int 1000000), (6, .int 1), (5, .int 0), (4, .int (nI (1510 * 1))), (0, .ref (A 0)), (1, .int 1), (2, .int (nI M)), (3, .int pt)]) hx hb dX6_period_59 hl (by decide) rfl (fun ls hl => ?_)
                have hfold : ∀ q : Q4, foldQ (tauM r (1510 * 1) M) (r 0 4) M 0 q = q := fun q => rfl
                have lp : ∀ (fuel : Nat) (i : Nat) (lt : Int32) (lb : Int32) (mt : Int32) (mb : Int32), (i ≤ M) → (M < i + fuel) → (foldQ (tauM r (1510 * 1) M) (r 0 4) M i (0, 1, 1000000, 1) = (lt, lb, mt, mb)) → (¬ lb ≤ 0) → (¬ mb ≤ 0) → ∀ (ls : Array Slot), lv_has ls 13 [(0, .ref (A 0)), (1, .int 1), (2, .int (nI M)), (3, .int pt), (4, .int (nI (1510 * 1))), (5, .int lt), (6, .int lb), (7, .int mt), (8, .int mb), (9, .int (nI i))] → W p l e rm_X6_period s m args below meth c s.heap [] 0 0 Q (F0 m 61 ls []) := by
                  intro fuel
                  induction fuel with
                  | zero => intro i lt lb mt mb hi hm hq hlb hmb ls hl; exact absurd hm (by omega)
                  | succ fuel ih =>
                    intro i lt lb mt mb hi hm hq hlb hmb ls hl
                    refine lv_iload hx hb dX6_period_61 (lv_at hl 9 rfl) ?_
                    refine lv_iload_n hx hb dX6_period_63 rfl (lv_at hl 2 rfl) ?_
                    refine lv_icmp_ge (tgt := 255) hx hb dX6_period_64 (by decide) (fun c_64 => ?_) (fun c_64 => ?_)
                    · skip
                      refine lv_iload hx hb dX6_period_255 (lv_at hl 5 rfl) ?_
                      refine lv_iload hx hb dX6_period_257 (lv_at hl 6 rfl) ?_
                      refine lv_iload hx hb dX6_period_259 (lv_at hl 7 rfl) ?_
                      refine lv_iload hx hb dX6_period_261 (lv_at hl 8 rfl) ?_
                      refine kSI (va_runS (As := [.int lt, .int lb, .int mt, .int mb]) (rest := []) ⟨hx, hb, hml, hown, hts⟩ (c_X6_isLess l D cI cB lt lb mt mb  _) (va_cwS 4 hts gX6_period_X6_isLess rfl rfl rfl (by decide +kernel) ⟨Nat.le_of_ble_eq_true rfl, Nat.le_of_ble_eq_true rfl⟩) (preS_nil hK hN) rfl rfl hl.1 rfl (lv_room (Nat.le_of_ble_eq_true rfl)) dX6_period_263 ⟨Nat.zero_le _, Nat.zero_le _⟩) ?_
                      refine lv_if_ne (tgt := 271) hx hb dX6_period_266 (by decide) (fun c_266 => ?_) (fun c_266 => ?_)
                      · skip
                        refine lv_iload hx hb dX6_period_271 (lv_at hl 5 rfl) ?_
                        refine lv_iload hx hb dX6_period_273 (lv_at hl 6 rfl) ?_
                        refine kSI (va_runS (As := [.int lt, .int lb]) (rest := []) ⟨hx, hb, hml, hown, hts⟩ (c_X6_common l D cI cB lt lb  _) (va_cwS 2 hts gX6_period_X6_common rfl rfl rfl (by decide +kernel) ⟨Nat.le_of_ble_eq_true rfl, Nat.le_of_ble_eq_true rfl⟩) (preS_nil hK hN) rfl rfl hl.1 rfl (lv_room (Nat.le_of_ble_eq_true rfl)) dX6_period_275 ⟨Nat.zero_le _, Nat.zero_le _⟩) ?_
                        refine lv_istore (lv' := [(9, .int (gcdG (lb.toInt.toNat + 1) lt lb)), (0, .ref (A 0)), (1, .int 1), (2, .int (nI M)), (3, .int pt), (4, .int (nI (1510 * 1))), (5, .int lt), (6, .int lb), (7, .int mt), (8, .int mb)]) hx hb dX6_period_278 hl (by decide) rfl (fun ls hl => ?_)
                        refine lv_iload hx hb dX6_period_280 (lv_at hl 8 rfl) ?_
                        refine lv_iload hx hb dX6_period_282 (lv_at hl 9 rfl) ?_
                        refine kSI (va_runS (As := [.int mt, .int mb]) (rest := []) ⟨hx, hb, hml, hown, hts⟩ (c_X6_common l D cI cB mt mb  _) (va_cwS 2 hts gX6_period_X6_common rfl rfl rfl (by decide +kernel) ⟨Nat.le_of_ble_eq_true rfl, Nat.le_of_ble_eq_true rfl⟩) (preS_nil hK hN) rfl rfl hl.1 rfl (lv_room (Nat.le_of_ble_eq_true rfl)) dX6_period_284 ⟨Nat.zero_le _, Nat.zero_le _⟩) ?_
                        refine lv_istore (lv' := [(10, .int (gcdG (mb.toInt.toNat + 1) mt mb)), (9, .int (gcdG (lb.toInt.toNat + 1) lt lb)), (0, .ref (A 0)), (1, .int 1), (2, .int (nI M)), (3, .int pt), (4, .int (nI (1510 * 1))), (5, .int lt), (6, .int lb), (7, .int mt), (8, .int mb)]) hx hb dX6_period_287 hl (by decide) rfl (fun ls hl => ?_)
                        refine lv_iload_n hx hb dX6_period_289 rfl (lv_at hl 5 rfl) ?_
                        refine lv_if_ne (tgt := 301) hx hb dX6_period_290 (by decide) (fun c_290 => ?_) (fun c_290 => ?_)
                        · skip
                          refine lv_iload_n hx hb dX6_period_301 rfl (lv_at hl 5 rfl) ?_
                          refine lv_iconst (v := 1) hx hb dX6_period_302 (by decide) ?_
                          refine lv_icmp_ne (tgt := 314) hx hb dX6_period_303 (by decide) (fun c_303 => ?_) (fun c_303 => ?_)
                          · skip
                            refine lv_iload_n hx hb dX6_period_314 rfl (lv_at hl 5 rfl) ?_
                            refine lv_iconst (v := 2) hx hb dX6_period_315 (by decide) ?_
                            refine lv_icmp_ne (tgt := 327) hx hb dX6_period_316 (by decide) (fun c_316 => ?_) (fun c_316 => ?_)
                            · skip
                              refine lv_iload hx hb dX6_period_327 (lv_at hl 10 rfl) ?_
                              refine lv_iload hx hb dX6_period_329 (lv_at hl 0 rfl) ?_
                              refine lv_idiv hx hb dX6_period_331 (gcdG_pos _ _ _ (Nat.lt_succ_self _) hmb) ?_
                              exact hE _ _ _ (by rw [rdV_1]; unfold periodM; rw [if_neg c_9, if_neg c_15, if_neg c_19, if_neg c_24, if_pos c_33, nI_clamp hM31, perM_eq (by rw [← hq, show i = M by have h7 := (nI_leI (by omega) (by omega)).mp c_64; omega])]; unfold cutM; rw [if_neg c_266, if_neg c_290, if_neg c_303, if_neg c_316]) rfl dX6_period_332
                            · skip
                              refine lv_iload hx hb dX6_period_319 (lv_at hl 9 rfl) ?_
                              refine lv_iload hx hb dX6_period_321 (lv_at hl 0 rfl) ?_
                              refine lv_idiv hx hb dX6_period_323 (gcdG_pos _ _ _ (Nat.lt_succ_self _) hmb) ?_
                              refine lv_goto (tgt := 332) hx hb dX6_period_324 (by decide) ?_
                              exact hE _ _ _ (by rw [rdV_1]; unfold periodM; rw [if_neg c_9, if_neg c_15, if_neg c_19, if_neg c_24, if_pos c_33, nI_clamp hM31, perM_eq (by rw [← hq, show i = M by have h7 := (nI_leI (by omega) (by omega)).mp c_64; omega])]; unfold cutM; rw [if_neg c_266, if_neg c_290, if_neg c_303, if_pos c_316]) rfl dX6_period_332
                          · skip
                            refine lv_iload hx hb dX6_period_306 (lv_at hl 8 rfl) ?_
                            refine lv_iload hx hb dX6_period_308 (lv_at hl 1 rfl) ?_
                            refine lv_idiv hx hb dX6_period_310 (gcdG_pos _ _ _ (Nat.lt_succ_self _) hlb) ?_
                            refine lv_goto (tgt := 332) hx hb dX6_period_311 (by decide) ?_
                            exact hE _ _ _ (by rw [rdV_1]; unfold periodM; rw [if_neg c_9, if_neg c_15, if_neg c_19, if_neg c_24, if_pos c_33, nI_clamp hM31, perM_eq (by rw [← hq, show i = M by have h7 := (nI_leI (by omega) (by omega)).mp c_64; omega])]; unfold cutM; rw [if_neg c_266, if_neg c_290, if_pos c_303]) rfl dX6_period_332
                        · skip
                          refine lv_iload hx hb dX6_period_293 (lv_at hl 7 rfl) ?_
                          refine lv_iload hx hb dX6_period_295 (lv_at hl 1 rfl) ?_
                          refine lv_idiv hx hb dX6_period_297 (gcdG_pos _ _ _ (Nat.lt_succ_self _) hlb) ?_
                          refine lv_goto (tgt := 332) hx hb dX6_period_298 (by decide) ?_
                          exact hE _ _ _ (by rw [rdV_1]; unfold periodM; rw [if_neg c_9, if_neg c_15, if_neg c_19, if_neg c_24, if_pos c_33, nI_clamp hM31, perM_eq (by rw [← hq, show i = M by have h7 := (nI_leI (by omega) (by omega)).mp c_64; omega])]; unfold cutM; rw [if_neg c_266, if_pos c_290]) rfl dX6_period_332
                      · skip
                        refine lv_iconst (v := -1) hx hb dX6_period_269 (by decide) ?_
                        exact hE _ _ _ (by rw [rdV_1]; unfold periodM; rw [if_neg c_9, if_neg c_15, if_neg c_19, if_neg c_24, if_pos c_33, nI_clamp hM31, perM_eq (by rw [← hq, show i = M by have h7 := (nI_leI (by omega) (by omega)).mp c_64; omega])]; unfold cutM; rw [if_pos c_266]) rfl dX6_period_270
                    · skip
                      have hlt : i < M := lt_of_nI (n := M) (by omega) c_64
                      have hli := (lat_in (Int32.not_lt.mp (hlat (M - 1 - i) (by omega)))).2
                      refine lv_aload_n hx hb dX6_period_67 rfl (lv_at hl 0 rfl) ?_
                      refine x_get (v := .ref (A 1)) (C := RX6) (T := TX6) (N := 9) hx hb hts hi6 hown hK hP 0 rfl rfl 0 (by decide) (hts (.fieldLink RX6 7 "PulseWheelModel" "now" "[I") (by decide +kernel)) rfl rfl dX6_period_68 ?_
                      refine lv_iload hx hb dX6_period_71 (lv_at hl 4 rfl) ?_
                      refine lv_sipush (v := 320) hx hb dX6_period_73 (by decide) ?_
                      refine lv_iadd hx hb dX6_period_76 ?_
                      refine lv_aload_n hx hb dX6_period_77 rfl (lv_at hl 0 rfl) ?_
                      refine lv_iload hx hb dX6_period_78 (lv_at hl 4 rfl) ?_
                      refine lv_iload_n hx hb dX6_period_80 rfl (lv_at hl 2 rfl) ?_
                      refine lv_iconst (v := 1) hx hb dX6_period_81 (by decide) ?_
                      refine lv_isub hx hb dX6_period_82 ?_
                      refine lv_iload hx hb dX6_period_83 (lv_at hl 9 rfl) ?_
                      refine lv_isub hx hb dX6_period_85 ?_
                      refine x_top (y := nI (M - 1 - i)) (sub1i (by omega)) ?_
                      refine kSI (va_runV (As := [.int (nI (1510 * 1)), .int (nI (M - 1 - i))]) (rest := [.int ((nI (1510 * 1)) + 320), .ref (A 1)]) ⟨hx, hb, hml, hown, hts⟩ (c_X6_latest l D cI cB A r (nI (M - 1 - i)) (1510 * 1) (by decide) _) (cwV 2 hts gX6_period_X6_latest rfl rfl rfl (by decide +kernel) ⟨Nat.le_of_ble_eq_true rfl, Nat.le_of_ble_eq_true rfl⟩) (preV_cut hP hD hK hN (ci := 6) rfl 0 rfl [0, 1, 2, 3, 4, 5] (by decide) rfl) rfl rfl hl.1 rfl (lv_room (Nat.le_of_ble_eq_true rfl)) dX6_period_86 ⟨Nat.zero_le _, Nat.zero_le _⟩) ?_
                      refine x_top (y := nI (latN (r 1 ((1510 * 1) + 9)) (nI (M - 1 - i)))) ((lat_in (Int32.not_lt.mp (hlat (M - 1 - i) (by omega)))).1) ?_
                      refine lv_iadd hx hb dX6_period_89 ?_
                      have hq_3 := ix_in (i := (((nI (1510 * 1)) + 320) + (nI (latN (r 1 ((1510 * 1) + 9)) (nI (M - 1 - i)))))) (n := 3020) ((1510 * 1) + 320 + (latN (r 1 ((1510 * 1) + 9)) (nI (M - 1 - i)))) (nIs2 (1510 * 1) 320 (latN (r 1 ((1510 * 1) + 9)) (nI (M - 1 - i)))) (by omega) (by decide)
                      refine x_ild (v := r 1 ((1510 * 1) + 320 + (latN (r 1 ((1510 * 1) + 9)) (nI (M - 1 - i))))) hx hb hK hP 1 rfl hq_3.1 (by rw [hq_3.2]) dX6_period_90 ?_
                      refine x_top (y := (tauM r (1510 * 1) M) i) (rfl) ?_
                      refine lv_istore (lv' := [(10, .int ((tauM r (1510 * 1) M) i)), (0, .ref (A 0)), (1, .int 1), (2, .int (nI M)), (3, .int pt), (4, .int (nI (1510 * 1))), (5, .int lt), (6, .int lb), (7, .int mt), (8, .int mb), (9, .int (nI i))]) hx hb dX6_period_91 hl (by decide) rfl (fun ls hl => ?_)
                      refine lv_iload hx hb dX6_period_93 (lv_at hl 6 rfl) ?_
                      refine lv_iload hx hb dX6_period_95 (lv_at hl 7 rfl) ?_
                      refine lv_aload_n hx hb dX6_period_97 rfl (lv_at hl 1 rfl) ?_
                      refine x_get (v := .int (r 0 4)) (C := RX6) (T := TX6) (N := 9) hx hb hts hi6 hown hK hP 0 rfl rfl 4 (by decide) (hts (.fieldLink RX6 37 "PulseWheelModel" "ticks" "I") (by decide +kernel)) rfl rfl dX6_period_98 ?_
                      refine lv_iload hx hb dX6_period_101 (lv_at hl 0 rfl) ?_
                      refine lv_isub hx hb dX6_period_103 ?_
                      refine lv_iload_n hx hb dX6_period_104 rfl (lv_at hl 3 rfl) ?_
                      refine lv_iload hx hb dX6_period_105 (lv_at hl 10 rfl) ?_
                      refine lv_isub hx hb dX6_period_107 ?_
                      refine x_top (y := nI (M - i)) (pk_sub (by omega)) ?_
                      refine kSI (va_runS (As := [.int lt, .int lb, .int ((r 0 4) - ((tauM r (1510 * 1) M) i)), .int (nI (M - i))]) (rest := []) ⟨hx, hb, hml, hown, hts⟩ (c_X6_isLess l D cI cB lt lb ((r 0 4) - ((tauM r (1510 * 1) M) i)) (nI (M - i))  _) (va_cwS 4 hts gX6_period_X6_isLess rfl rfl rfl (by decide +kernel) ⟨Nat.le_of_ble_eq_true rfl, Nat.le_of_ble_eq_true rfl⟩) (preS_nil hK hN) rfl rfl hl.1 rfl (lv_room (Nat.le_of_ble_eq_true rfl)) dX6_period_108 ⟨Nat.zero_le _, Nat.zero_le _⟩) ?_
                      have jn : ∀ (lt1 : Int32) (lb1 : Int32), (raiseQ (lt, lb, mt, mb) (r 0 4 - (tauM r (1510 * 1) M) i) (nI (M - i)) = (lt1, lb1, mt, mb)) → (¬ lb1 ≤ 0) → ∀ (ls : Array Slot), lv_has ls 13 [(0, .ref (A 0)), (1, .int 1), (2, .int (nI M)), (3, .int pt), (4, .int (nI (1510 * 1))), (5, .int lt1), (6, .int lb1), (7, .int mt), (8, .int mb), (9, .int (nI i)), (10, .int ((tauM r (1510 * 1) M) i))] → W p l e rm_X6_period s m args below meth c s.heap [] 0 0 Q (F0 m 129 ls []) := by
                        intro lt1 lb1 hra hlb1 ls hl
                        refine lv_iload hx hb dX6_period_129 (lv_at hl 9 rfl) ?_
                        refine lv_iconst (v := 1) hx hb dX6_period_131 (by decide) ?_
                        refine lv_iadd hx hb dX6_period_132 ?_
                        refine x_top (y := nI (i + 1)) (nI_1 i) ?_
                        refine lv_istore (lv' := [(11, .int (nI (i + 1))), (0, .ref (A 0)), (1, .int 1), (2, .int (nI M)), (3, .int pt), (4, .int (nI (1510 * 1))), (5, .int lt1), (6, .int lb1), (7, .int mt), (8, .int mb), (9, .int (nI i)), (10, .int ((tauM r (1510 * 1) M) i))]) hx hb dX6_period_133 hl (by decide) rfl (fun ls hl => ?_)
                        have lq : ∀ (fu2 : Nat) (j : Nat) (lt2 : Int32) (lb2 : Int32) (mt2 : Int32) (mb2 : Int32), (i + 1 ≤ j) → (j ≤ M) → (M < j + fu2) → (innerQ (tauM r (1510 * 1) M) i (j - (i + 1)) (lt1, lb1, mt, mb) = (lt2, lb2, mt2, mb2)) → (¬ lb2 ≤ 0) → (¬ mb2 ≤ 0) → ∀ (ls : Array Slot), lv_has ls 13 [(0, .ref (A 0)), (1, .int 1), (2, .int (nI M)), (3, .int pt), (4, .int (nI (1510 * 1))), (5, .int lt2), (6, .int lb2), (7, .int mt2), (8, .int mb2), (9, .int (nI i)), (10, .int ((tauM r (1510 * 1) M) i)), (11, .int (nI j))] → W p l e rm_X6_period s m args below meth c s.heap [] 0 0 Q (F0 m 135 ls []) := by
                          intro fu2
                          induction fu2 with
                          | zero => intro j lt2 lb2 mt2 mb2 hj1 hj hmj hq2 hlb2 hmb2 ls hl; exact absurd hmj (by omega)
                          | succ fu2 ih2 =>
                            intro j lt2 lb2 mt2 mb2 hj1 hj hmj hq2 hlb2 hmb2 ls hl
                            refine lv_iload hx hb dX6_period_135 (lv_at hl 11 rfl) ?_
                            refine lv_iload_n hx hb dX6_period_137 rfl (lv_at hl 2 rfl) ?_
                            refine lv_icmp_ge (tgt := 249) hx hb dX6_period_138 (by decide) (fun c_138 => ?_) (fun c_138 => ?_)
                            · skip
                              refine lv_iinc (v := nI (i + 1)) (lv' := [(9, .int (nI (i + 1))), (0, .ref (A 0)), (1, .int 1), (2, .int (nI M)), (3, .int pt), (4, .int (nI (1510 * 1))), (5, .int lt2), (6, .int lb2), (7, .int mt2), (8, .int mb2), (10, .int ((tauM r (1510 * 1) M) i)), (11, .int (nI j))]) hx hb dX6_period_249 hl (k := 9) rfl (nI_1 i) (by decide) rfl (fun ls hl => ?_)
                              refine lv_goto (tgt := 61) hx hb dX6_period_252 (by decide) ?_
                              exact ih (i + 1) lt2 lb2 mt2 mb2 (by omega) (by omega) (by rw [show foldQ (tauM r (1510 * 1) M) (r 0 4) M (i + 1) (0, 1, 1000000, 1) = outQ (tauM r (1510 * 1) M) (r 0 4) M i (foldQ (tauM r (1510 * 1) M) (r 0 4) M i (0, 1, 1000000, 1)) from rfl, hq, ← hq2, show j = M by have h7 := (nI_leI (by omega) (by omega)).mp c_138; omega]; unfold outQ; rw [hra]) (hlb2) (hmb2) ls (lv_sub hl [1, 2, 3, 4, 5, 6, 7, 8, 9, 0] rfl)
                            · skip
                              have hlt2 : j < M := lt_of_nI (n := M) (by omega) c_138
                              have hlj := (lat_in (Int32.not_lt.mp (hlat (M - 1 - j) (by omega)))).2
                              refine lv_aload_n hx hb dX6_period_141 rfl (lv_at hl 0 rfl) ?_
                              refine x_get (v := .ref (A 1)) (C := RX6) (T := TX6) (N := 9) hx hb hts hi6 hown hK hP 0 rfl rfl 0 (by decide) (hts (.fieldLink RX6 7 "PulseWheelModel" "now" "[I") (by decide +kernel)) rfl rfl dX6_period_142 ?_
                              refine lv_iload hx hb dX6_period_145 (lv_at hl 4 rfl) ?_
                              refine lv_sipush (v := 320) hx hb dX6_period_147 (by decide) ?_
                              refine lv_iadd hx hb dX6_period_150 ?_
                              refine lv_aload_n hx hb dX6_period_151 rfl (lv_at hl 0 rfl) ?_
                              refine lv_iload hx hb dX6_period_152 (lv_at hl 4 rfl) ?_
                              refine lv_iload_n hx hb dX6_period_154 rfl (lv_at hl 2 rfl) ?_
                              refine lv_iconst (v := 1) hx hb dX6_period_155 (by decide) ?_
                              refine lv_isub hx hb dX6_period_156 ?_
                              refine lv_iload hx hb dX6_period_157 (lv_at hl 11 rfl) ?_
                              refine lv_isub hx hb dX6_period_159 ?_
                              refine x_top (y := nI (M - 1 - j)) (sub1i (by omega)) ?_
                              refine kSI (va_runV (As := [.int (nI (1510 * 1)), .int (nI (M - 1 - j))]) (rest := [.int ((nI (1510 * 1)) + 320), .ref (A 1)]) ⟨hx, hb, hml, hown, hts⟩ (c_X6_latest l D cI cB A r (nI (M - 1 - j)) (1510 * 1) (by decide) _) (cwV 2 hts gX6_period_X6_latest rfl rfl rfl (by decide +kernel) ⟨Nat.le_of_ble_eq_true rfl, Nat.le_of_ble_eq_true rfl⟩) (preV_cut hP hD hK hN (ci := 6) rfl 0 rfl [0, 1, 2, 3, 4, 5] (by decide) rfl) rfl rfl hl.1 rfl (lv_room (Nat.le_of_ble_eq_true rfl)) dX6_period_160 ⟨Nat.zero_le _, Nat.zero_le _⟩) ?_
                              refine x_top (y := nI (latN (r 1 ((1510 * 1) + 9)) (nI (M - 1 - j)))) ((lat_in (Int32.not_lt.mp (hlat (M - 1 - j) (by omega)))).1) ?_
                              refine lv_iadd hx hb dX6_period_163 ?_
                              have hq_4 := ix_in (i := (((nI (1510 * 1)) + 320) + (nI (latN (r 1 ((1510 * 1) + 9)) (nI (M - 1 - j)))))) (n := 3020) ((1510 * 1) + 320 + (latN (r 1 ((1510 * 1) + 9)) (nI (M - 1 - j)))) (nIs2 (1510 * 1) 320 (latN (r 1 ((1510 * 1) + 9)) (nI (M - 1 - j)))) (by omega) (by decide)
                              refine x_ild (v := r 1 ((1510 * 1) + 320 + (latN (r 1 ((1510 * 1) + 9)) (nI (M - 1 - j))))) hx hb hK hP 1 rfl hq_4.1 (by rw [hq_4.2]) dX6_period_164 ?_
                              refine x_top (y := (tauM r (1510 * 1) M) j) (rfl) ?_
                              refine lv_istore (lv' := [(12, .int ((tauM r (1510 * 1) M) j)), (0, .ref (A 0)), (1, .int 1), (2, .int (nI M)), (3, .int pt), (4, .int (nI (1510 * 1))), (5, .int lt2), (6, .int lb2), (7, .int mt2), (8, .int mb2), (9, .int (nI i)), (10, .int ((tauM r (1510 * 1) M) i)), (11, .int (nI j))]) hx hb dX6_period_165 hl (by decide) rfl (fun ls hl => ?_)
                              refine lv_iload hx hb dX6_period_167 (lv_at hl 6 rfl) ?_
                              refine lv_iload hx hb dX6_period_169 (lv_at hl 7 rfl) ?_
                              refine lv_iload hx hb dX6_period_171 (lv_at hl 0 rfl) ?_
                              refine lv_iload hx hb dX6_period_173 (lv_at hl 11 rfl) ?_
                              refine lv_isub hx hb dX6_period_175 ?_
                              refine lv_iconst (v := 1) hx hb dX6_period_176 (by decide) ?_
                              refine lv_isub hx hb dX6_period_177 ?_
                              refine lv_iload hx hb dX6_period_178 (lv_at hl 12 rfl) ?_
                              refine lv_iload hx hb dX6_period_180 (lv_at hl 10 rfl) ?_
                              refine lv_isub hx hb dX6_period_182 ?_
                              refine x_top (y := nI (j - i)) (pk_sub (by omega)) ?_
                              refine kSI (va_runS (As := [.int lt2, .int lb2, .int ((((tauM r (1510 * 1) M) j) - ((tauM r (1510 * 1) M) i)) - 1), .int (nI (j - i))]) (rest := []) ⟨hx, hb, hml, hown, hts⟩ (c_X6_isLess l D cI cB lt2 lb2 ((((tauM r (1510 * 1) M) j) - ((tauM r (1510 * 1) M) i)) - 1) (nI (j - i))  _) (va_cwS 4 hts gX6_period_X6_isLess rfl rfl rfl (by decide +kernel) ⟨Nat.le_of_ble_eq_true rfl, Nat.le_of_ble_eq_true rfl⟩) (preS_nil hK hN) rfl rfl hl.1 rfl (lv_room (Nat.le_of_ble_eq_true rfl)) dX6_period_183 ⟨Nat.zero_le _, Nat.zero_le _⟩) ?_
                              have jm : ∀ (lt3 : Int32) (lb3 : Int32), (raiseQ (lt2, lb2, mt2, mb2) ((tauM r (1510 * 1) M) j - (tauM r (1510 * 1) M) i - 1) (nI (j - i)) = (lt3, lb3, mt2, mb2)) → (¬ lb3 ≤ 0) → ∀ (ls : Array Slot), lv_has ls 13 [(0, .ref (A 0)), (1, .int 1), (2, .int (nI M)), (3, .int pt), (4, .int (nI (1510 * 1))), (5, .int lt3), (6, .int lb3), (7, .int mt2), (8, .int mb2), (9, .int (nI i)), (10, .int ((tauM r (1510 * 1) M) i)), (11, .int (nI j)), (12, .int ((tauM r (1510 * 1) M) j))] → W p l e rm_X6_period s m args below meth c s.heap [] 0 0 Q (F0 m 205 ls []) := by
                                intro lt3 lb3 hrb hlb3 ls hl
                                refine lv_iload hx hb dX6_period_205 (lv_at hl 12 rfl) ?_
                                refine lv_iload hx hb dX6_period_207 (lv_at hl 10 rfl) ?_
                                refine lv_isub hx hb dX6_period_209 ?_
                                refine lv_iconst (v := 1) hx hb dX6_period_210 (by decide) ?_
                                refine lv_iadd hx hb dX6_period_211 ?_
                                refine lv_iload hx hb dX6_period_212 (lv_at hl 11 rfl) ?_
                                refine lv_iload hx hb dX6_period_214 (lv_at hl 9 rfl) ?_
                                refine lv_isub hx hb dX6_period_216 ?_
                                refine x_top (y := nI (j - i)) (pk_sub (by omega)) ?_
                                refine lv_iload hx hb dX6_period_217 (lv_at hl 7 rfl) ?_
                                refine lv_iload hx hb dX6_period_219 (lv_at hl 8 rfl) ?_
                                refine kSI (va_runS (As := [.int ((((tauM r (1510 * 1) M) j) - ((tauM r (1510 * 1) M) i)) + 1), .int (nI (j - i)), .int mt2, .int mb2]) (rest := []) ⟨hx, hb, hml, hown, hts⟩ (c_X6_isLess l D cI cB ((((tauM r (1510 * 1) M) j) - ((tauM r (1510 * 1) M) i)) + 1) (nI (j - i)) mt2 mb2  _) (va_cwS 4 hts gX6_period_X6_isLess rfl rfl rfl (by decide +kernel) ⟨Nat.le_of_ble_eq_true rfl, Nat.le_of_ble_eq_true rfl⟩) (preS_nil hK hN) rfl rfl hl.1 rfl (lv_room (Nat.le_of_ble_eq_true rfl)) dX6_period_221 ⟨Nat.zero_le _, Nat.zero_le _⟩) ?_
                                refine lv_if_eq (tgt := 243) hx hb dX6_period_224 (by decide) (fun c_224 => ?_) (fun c_224 => ?_)
                                · skip
                                  refine lv_iinc (v := nI (j + 1)) (lv' := [(11, .int (nI (j + 1))), (0, .ref (A 0)), (1, .int 1), (2, .int (nI M)), (3, .int pt), (4, .int (nI (1510 * 1))), (5, .int lt3), (6, .int lb3), (7, .int mt2), (8, .int mb2), (9, .int (nI i)), (10, .int ((tauM r (1510 * 1) M) i)), (12, .int ((tauM r (1510 * 1) M) j))]) hx hb dX6_period_243 hl (k := 11) rfl (nI_1 j) (by decide) rfl (fun ls hl => ?_)
                                  refine lv_goto (tgt := 135) hx hb dX6_period_246 (by decide) ?_
                                  exact ih2 (j + 1) lt3 lb3 mt2 mb2 (by omega) (by omega) (by omega) (by rw [innerQ_s _ _ _ _ hj1, hq2]; unfold inQ; rw [hrb, lowerQ_p c_224]) (hlb3) (hmb2) ls (lv_sub hl [1, 2, 3, 4, 5, 6, 7, 8, 9, 10, 11, 0] rfl)
                                · skip
                                  refine lv_iload hx hb dX6_period_227 (lv_at hl 12 rfl) ?_
                                  refine lv_iload hx hb dX6_period_229 (lv_at hl 10 rfl) ?_
                                  refine lv_isub hx hb dX6_period_231 ?_
                                  refine lv_iconst (v := 1) hx hb dX6_period_232 (by decide) ?_
                                  refine lv_iadd hx hb dX6_period_233 ?_
                                  refine lv_istore (lv' := [(7, .int ((((tauM r (1510 * 1) M) j) - ((tauM r (1510 * 1) M) i)) + 1)), (0, .ref (A 0)), (1, .int 1), (2, .int (nI M)), (3, .int pt), (4, .int (nI (1510 * 1))), (5, .int lt3), (6, .int lb3), (8, .int mb2), (9, .int (nI i)), (10, .int ((tauM r (1510 * 1) M) i)), (11, .int (nI j)), (12, .int ((tauM r (1510 * 1) M) j))]) hx hb dX6_period_234 hl (by decide) rfl (fun ls hl => ?_)
                                  refine lv_iload hx hb dX6_period_236 (lv_at hl 11 rfl) ?_
                                  refine lv_iload hx hb dX6_period_238 (lv_at hl 9 rfl) ?_
                                  refine lv_isub hx hb dX6_period_240 ?_
                                  refine x_top (y := nI (j - i)) (pk_sub (by omega)) ?_
                                  refine lv_istore (lv' := [(8, .int (nI (j - i))), (7, .int ((((tauM r (1510 * 1) M) j) - ((tauM r (1510 * 1) M) i)) + 1)), (0, .ref (A 0)), (1, .int 1), (2, .int (nI M)), (3, .int pt), (4, .int (nI (1510 * 1))), (5, .int lt3), (6, .int lb3), (9, .int (nI i)), (10, .int ((tauM r (1510 * 1) M) i)), (11, .int (nI j)), (12, .int ((tauM r (1510 * 1) M) j))]) hx hb dX6_period_241 hl (by decide) rfl (fun ls hl => ?_)
                                  refine lv_iinc (v := nI (j + 1)) (lv' := [(11, .int (nI (j + 1))), (8, .int (nI (j - i))), (7, .int ((((tauM r (1510 * 1) M) j) - ((tauM r (1510 * 1) M) i)) + 1)), (0, .ref (A 0)), (1, .int 1), (2, .int (nI M)), (3, .int pt), (4, .int (nI (1510 * 1))), (5, .int lt3), (6, .int lb3), (9, .int (nI i)), (10, .int ((tauM r (1510 * 1) M) i)), (12, .int ((tauM r (1510 * 1) M) j))]) hx hb dX6_period_243 hl (k := 11) rfl (nI_1 j) (by decide) rfl (fun ls hl => ?_)
                                  refine lv_goto (tgt := 135) hx hb dX6_period_246 (by decide) ?_
                                  exact ih2 (j + 1) lt3 lb3 ((((tauM r (1510 * 1) M) j) - ((tauM r (1510 * 1) M) i)) + 1) (nI (j - i)) (by omega) (by omega) (by omega) (by rw [innerQ_s _ _ _ _ hj1, hq2]; unfold inQ; rw [hrb, lowerQ_n c_224]) (hlb3) (nI_npos (by omega) (by omega)) ls (lv_sub hl [3, 4, 5, 6, 7, 8, 9, 2, 1, 10, 11, 0] rfl)
                              refine lv_if_eq (tgt := 205) hx hb dX6_period_186 (by decide) (fun c_186 => ?_) (fun c_186 => ?_)
                              · skip
                                exact jm lt2 lb2 (raiseQ_p c_186) (hlb2) ls (lv_sub hl [1, 2, 3, 4, 5, 6, 7, 8, 9, 10, 11, 12, 0] rfl)
                              · skip
                                refine lv_iload hx hb dX6_period_189 (lv_at hl 0 rfl) ?_
                                refine lv_iload hx hb dX6_period_191 (lv_at hl 11 rfl) ?_
                                refine lv_isub hx hb dX6_period_193 ?_
                                refine lv_iconst (v := 1) hx hb dX6_period_194 (by decide) ?_
                                refine lv_isub hx hb dX6_period_195 ?_
                                refine lv_istore (lv' := [(5, .int ((((tauM r (1510 * 1) M) j) - ((tauM r (1510 * 1) M) i)) - 1)), (12, .int ((tauM r (1510 * 1) M) j)), (0, .ref (A 0)), (1, .int 1), (2, .int (nI M)), (3, .int pt), (4, .int (nI (1510 * 1))), (6, .int lb2), (7, .int mt2), (8, .int mb2), (9, .int (nI i)), (10, .int ((tauM r (1510 * 1) M) i)), (11, .int (nI j))]) hx hb dX6_period_196 hl (by decide) rfl (fun ls hl => ?_)
                                refine lv_iload hx hb dX6_period_198 (lv_at hl 12 rfl) ?_
                                refine lv_iload hx hb dX6_period_200 (lv_at hl 10 rfl) ?_
                                refine lv_isub hx hb dX6_period_202 ?_
                                refine x_top (y := nI (j - i)) (pk_sub (by omega)) ?_
                                refine lv_istore (lv' := [(6, .int (nI (j - i))), (5, .int ((((tauM r (1510 * 1) M) j) - ((tauM r (1510 * 1) M) i)) - 1)), (12, .int ((tauM r (1510 * 1) M) j)), (0, .ref (A 0)), (1, .int 1), (2, .int (nI M)), (3, .int pt), (4, .int (nI (1510 * 1))), (7, .int mt2), (8, .int mb2), (9, .int (nI i)), (10, .int ((tauM r (1510 * 1) M) i)), (11, .int (nI j))]) hx hb dX6_period_203 hl (by decide) rfl (fun ls hl => ?_)
                                exact jm ((((tauM r (1510 * 1) M) j) - ((tauM r (1510 * 1) M) i)) - 1) (nI (j - i)) (raiseQ_n c_186) (nI_npos (by omega) (by omega)) ls (lv_sub hl [3, 4, 5, 6, 7, 1, 0, 8, 9, 10, 11, 12, 2] rfl)
                        exact lq (M + 1) (i + 1) lt1 lb1 mt mb (Nat.le_refl _) (by omega) (by omega) (by rw [Nat.sub_self]; rfl) (hlb1) (hmb) ls (lv_sub hl [1, 2, 3, 4, 5, 6, 7, 8, 9, 10, 11, 0] rfl)
                      refine lv_if_eq (tgt := 129) hx hb dX6_period_111 (by decide) (fun c_111 => ?_) (fun c_111 => ?_)
                      · skip
                        exact jn lt lb (raiseQ_p c_111) (hlb) ls (lv_sub hl [1, 2, 3, 4, 5, 6, 7, 8, 9, 10, 0] rfl)
                      · skip
                        refine lv_aload_n hx hb dX6_period_114 rfl (lv_at hl 1 rfl) ?_
                        refine x_get (v := .int (r 0 4)) (C := RX6) (T := TX6) (N := 9) hx hb hts hi6 hown hK hP 0 rfl rfl 4 (by decide) (hts (.fieldLink RX6 37 "PulseWheelModel" "ticks" "I") (by decide +kernel)) rfl rfl dX6_period_115 ?_
                        refine lv_iload hx hb dX6_period_118 (lv_at hl 0 rfl) ?_
                        refine lv_isub hx hb dX6_period_120 ?_
                        refine lv_istore (lv' := [(5, .int ((r 0 4) - ((tauM r (1510 * 1) M) i))), (10, .int ((tauM r (1510 * 1) M) i)), (0, .ref (A 0)), (1, .int 1), (2, .int (nI M)), (3, .int pt), (4, .int (nI (1510 * 1))), (6, .int lb), (7, .int mt), (8, .int mb), (9, .int (nI i))]) hx hb dX6_period_121 hl (by decide) rfl (fun ls hl => ?_)
                        refine lv_iload_n hx hb dX6_period_123 rfl (lv_at hl 4 rfl) ?_
                        refine lv_iload hx hb dX6_period_124 (lv_at hl 10 rfl) ?_
                        refine lv_isub hx hb dX6_period_126 ?_
                        refine x_top (y := nI (M - i)) (pk_sub (by omega)) ?_
                        refine lv_istore (lv' := [(6, .int (nI (M - i))), (5, .int ((r 0 4) - ((tauM r (1510 * 1) M) i))), (10, .int ((tauM r (1510 * 1) M) i)), (0, .ref (A 0)), (1, .int 1), (2, .int (nI M)), (3, .int pt), (4, .int (nI (1510 * 1))), (7, .int mt), (8, .int mb), (9, .int (nI i))]) hx hb dX6_period_127 hl (by decide) rfl (fun ls hl => ?_)
                        exact jn ((r 0 4) - ((tauM r (1510 * 1) M) i)) (nI (M - i)) (raiseQ_n c_111) (nI_npos (by omega) (by omega)) ls (lv_sub hl [3, 4, 5, 6, 7, 1, 0, 8, 9, 10, 2] rfl)
                exact lp (M + 1) 0 0 1 1000000 1 (Nat.zero_le _) (by omega) (rfl) (by decide) (by decide) ls (lv_sub hl [6, 7, 8, 9, 5, 4, 3, 2, 1, 0] rfl)
              · skip
                refine lv_iconst (v := -1) hx hb dX6_period_36 (by decide) ?_
                exact hE _ _ _ (by rw [rdV_1]; unfold periodM; rw [if_neg c_9, if_neg c_15, if_neg c_19, if_neg c_24, if_neg c_33]) rfl dX6_period_37
  refine lv_iload_n hx hb dX6_period_0 rfl (lv_at hl 1 rfl) ?_
  refine kSI (va_runS (As := [.int rd]) (rest := []) ⟨hx, hb, hml, hown, hts⟩ (c_X6_isReader l D cI cB rd  _) (va_cwS 1 hts gX6_period_X6_isReader rfl rfl rfl (by decide +kernel) ⟨Nat.le_of_ble_eq_true rfl, Nat.le_of_ble_eq_true rfl⟩) (preS_nil hK hN) rfl rfl hl.1 rfl (lv_room (Nat.le_of_ble_eq_true rfl)) dX6_period_1 ⟨Nat.zero_le _, Nat.zero_le _⟩) ?_
  refine lv_if_eq (tgt := 36) hx hb dX6_period_4 (by decide) (fun c_4 => ?_) (fun c_4 => ?_)
  · skip
    refine lv_iconst (v := -1) hx hb dX6_period_36 (by decide) ?_
    exact hE _ _ _ (by rw [rdV_n c0 c1]) rfl dX6_period_37
  · exact absurd (by unfold isRdV; rw [if_neg c0, if_neg c1]) c_4
