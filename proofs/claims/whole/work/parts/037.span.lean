/-! ### Span; the images' bits; about -/
theorem x_aldN {p : Program} {l : Launch} {e : Env} {R : Room} {s : State} {m : MethodId} {args : Array Value} {below : List Frame} {meth : Method} {c : Code} {H : Heap} {locs : List Loc} {cells slots : Nat} {Q : State → Prop} {pc : Nat} {ls : Array Slot} {rest : List Value} {cc : ByteArray} {D : va_G} {ws : va_W} {cI cB : ClassId} {a n : Nat} {f : Nat → Option Nat} {i : Int32} (hexec : p.tables.exec = Jvm.exec) (hb : c.code = cc) (hK : va_K D vwCl (tyL cI cB) s) (hP : va_P D vwCl ws H) (q0 : Nat) (ha : ws[q0]? = some (a, .inl (cB, n, .inr (.inr (.inr (.inr f)))))) (hin : vp_in i n) (hv : f i.toNatClampNeg = none) (hdg : decode cc pc = .ok (.aaload, 1))
    (kk : W p l e R s m args below meth c H locs cells slots Q (F0 m (pc + 1) ls (.null :: rest))) : W p l e R s m args below meth c H locs cells slots Q (F0 m pc ls (.int i :: .ref a :: rest)) :=
  va_aldq hexec hb hK hP q0 1 ha rfl hin hdg (by rw [hv]; exact kk)
theorem x_aldS {p : Program} {l : Launch} {e : Env} {R : Room} {s : State} {m : MethodId} {args : Array Value} {below : List Frame} {meth : Method} {c : Code} {H : Heap} {locs : List Loc} {cells slots : Nat} {Q : State → Prop} {pc : Nat} {ls : Array Slot} {rest : List Value} {cc : ByteArray} {D : va_G} {ws : va_W} {cI cB : ClassId} {a n q : Nat} {f : Nat → Option Nat} {i : Int32} (hexec : p.tables.exec = Jvm.exec) (hb : c.code = cc) (hK : va_K D vwCl (tyL cI cB) s) (hP : va_P D vwCl ws H) (q0 : Nat) (ha : ws[q0]? = some (a, .inl (cB, n, .inr (.inr (.inr (.inr f)))))) (hin : vp_in i n) (hv : f i.toNatClampNeg = some q) (hdg : decode cc pc = .ok (.aaload, 1))
    (kk : W p l e R s m args below meth c H locs cells slots Q (F0 m (pc + 1) ls (.ref q :: rest))) : W p l e R s m args below meth c H locs cells slots Q (F0 m pc ls (.int i :: .ref a :: rest)) :=
  va_aldq hexec hb hK hP q0 1 ha rfl hin hdg (by rw [hv]; exact kk)
def belowV (a b c d : Int32) : Int32 := if 0 ≤ lg_cmp (a.toInt64 * d.toInt64) (c.toInt64 * b.toInt64) then 0 else 1
theorem belowV_01 (a b c d : Int32) : belowV a b c d = 0 ∨ belowV a b c d = 1 := by
  unfold belowV
  split
  · exact Or.inl rfl
  · exact Or.inr rfl
theorem narrow_below (a b c d : Int32) : narrow .boolean (.int (belowV a b c d)) = .int (belowV a b c d) := fits_bool_of (belowV_01 a b c d)
def gcdF : Nat → Int32 → Int32 → Int32
  | 0, a, _ => a
  | n + 1, a, b => if b = 0 then a else gcdF n b (rem32 a b)
theorem gcdF_s (n : Nat) (a b : Int32) : gcdF (n + 1) a b = if b = 0 then a else gcdF n b (rem32 a b) := rfl
def redV (x y : Int32) : Int32 := if gcdF 100 x y = 0 then x else x / gcdF 100 x y
def partV (lt lb mt mb p : Int32) : Int32 := if p = 0 then redV lt lb else if p = 1 then redV lb lt else if p = 2 then redV mt mb else if p = 3 then redV mb mt else -1
def imgB (im : Nat → Option Nat) : Nat → Int32
  | 0 => 0
  | k + 1 => if im k = none then imgB im k else imgB im k ||| bitV k
theorem imgB_s (im : Nat → Option Nat) (k : Nat) : imgB im (k + 1) = if im k = none then imgB im k else imgB im k ||| bitV k := rfl
def aboutV (t tw : Int32) (im : Nat → Option Nat) (w : Int32) : Int32 := if w = 0 then t else if w = 1 then tw * 4 else if w = 2 then imgB im 4 else -1

def rm_X3_isBelow : Room := { frames := 0, cells := 0, slots := 0, locals := 0 }
set_option maxHeartbeats 1000000 in
set_option maxRecDepth 100000 in
theorem c_X3_isBelow (l : Launch) (D : va_G) (cI cB : ClassId) (x1 x2 x3 x4 : Int32) : SI l D cI cB yX3_isBelow wsX3_isBelow rm_X3_isBelow [.int x1, .int x2, .int x3, .int x4] [] (belowV x1 x2 x3 x4) := by
  refine SI.of (cc := cX3_isBelow) (maxL := 4) (ty := .boolean) (by decide +kernel) rfl (Nat.le_of_ble_eq_true rfl) ?_
  intro p e s m args below meth c ls Q hT hP hD hl hE
  obtain ⟨hx, hb, hr, hlocks, hnm, hml, hown, hts, hK, hN⟩ := hT
  have hl : lv_has ls 4 [(0, .int x1), (1, .int x2), (2, .int x3), (3, .int x4)] := hl
  refine lv_iload_n hx hb dX3_isBelow_0 rfl (lv_at hl 0 rfl) ?_
  refine lv_i2l (v := x1.toInt64) hx hb dX3_isBelow_1 rfl ?_
  refine lv_iload_n hx hb dX3_isBelow_2 rfl (lv_at hl 3 rfl) ?_
  refine lv_i2l (v := x4.toInt64) hx hb dX3_isBelow_3 rfl ?_
  refine lv_lmul hx hb dX3_isBelow_4 ?_
  refine lv_iload_n hx hb dX3_isBelow_5 rfl (lv_at hl 2 rfl) ?_
  refine lv_i2l (v := x3.toInt64) hx hb dX3_isBelow_6 rfl ?_
  refine lv_iload_n hx hb dX3_isBelow_7 rfl (lv_at hl 1 rfl) ?_
  refine lv_i2l (v := x2.toInt64) hx hb dX3_isBelow_8 rfl ?_
  refine lv_lmul hx hb dX3_isBelow_9 ?_
  refine W.lcmp hx hb dX3_isBelow_10 ?_
  refine lv_if_ge (tgt := 18) hx hb dX3_isBelow_11 (by decide) (fun c_11 => ?_) (fun c_11 => ?_)
  · skip
    refine lv_iconst (v := 0) hx hb dX3_isBelow_18 (by decide) ?_
    exact hE _ _ _ (by first | rfl | (unfold belowV; rw [if_pos c_11]; done) | (simp only [belowV, if_pos c_11]; done) | (simp only [belowV, c_11, if_true, if_false]; done) | (simp only [belowV, c_11, if_true, if_false, not_true, not_false_iff, reduceIte]; done) | (exfalso; simp_all; done) | (simp [belowV, c_11]; done) | (simp_all [belowV]; done)) rfl dX3_isBelow_19
  · skip
    refine lv_iconst (v := 1) hx hb dX3_isBelow_14 (by decide) ?_
    refine lv_goto (tgt := 19) hx hb dX3_isBelow_15 (by decide) ?_
    exact hE _ _ _ (by first | rfl | (unfold belowV; rw [if_neg c_11]; done) | (simp only [belowV, if_neg c_11]; done) | (simp only [belowV, c_11, if_true, if_false]; done) | (simp only [belowV, c_11, if_true, if_false, not_true, not_false_iff, reduceIte]; done) | (exfalso; simp_all; done) | (simp [belowV, c_11]; done) | (simp_all [belowV]; done)) rfl dX3_isBelow_19

def rm_X3_raiseLeast : Room := { frames := 1, cells := 0, slots := 0, locals := 23 }
set_option maxHeartbeats 1000000 in
set_option maxRecDepth 100000 in
theorem c_X3_raiseLeast (l : Launch) (D : va_G) (cI cB : ClassId) (a : Nat) (lt : Int32) (lb : Int32) (mt : Int32) (mb : Int32) (x y : Int32) : CV l D cI cB yX3_raiseLeast wsX3_raiseLeast rm_X3_raiseLeast [.ref a, .int x, .int y] (spanW a lt lb mt mb) (spanW a (if belowV lt lb x y = 0 then lt else x) (if belowV lt lb x y = 0 then lb else y) mt mb) := by
  refine CV.of (cc := cX3_raiseLeast) (maxL := 3)  (by decide +kernel) rfl (Nat.le_of_ble_eq_true rfl) ?_
  intro p e s m args below meth c ls A0 Q hT hH hA hl hE
  obtain ⟨hx, hb, hr, hlocks, hnm, hml, hown, hts, hK, hN⟩ := hT
  have hl : lv_has ls 3 [(0, .ref a), (1, .int x), (2, .int y)] := hl
  have hi3 : ∀ w ∈ wsX30, w ∈ wsX3_raiseLeast := by decide +kernel
  refine lv_aload_n hx hb dX3_raiseLeast_0 rfl (lv_at hl 0 rfl) ?_
  refine x_get (v := .int lt) (C := RX3) (T := TX3) (N := 4) hx hb hts hi3 hown hK hH.1 0 rfl rfl 0 (by decide) (hts (.fieldLink RX3 9 "PulseWheel$Span" "leastTop" "I") (by decide +kernel)) rfl rfl dX3_raiseLeast_1 ?_
  refine lv_aload_n hx hb dX3_raiseLeast_4 rfl (lv_at hl 0 rfl) ?_
  refine x_get (v := .int lb) (C := RX3) (T := TX3) (N := 4) hx hb hts hi3 hown hK hH.1 0 rfl rfl 1 (by decide) (hts (.fieldLink RX3 15 "PulseWheel$Span" "leastBottom" "I") (by decide +kernel)) rfl rfl dX3_raiseLeast_5 ?_
  refine lv_iload_n hx hb dX3_raiseLeast_8 rfl (lv_at hl 1 rfl) ?_
  refine lv_iload_n hx hb dX3_raiseLeast_9 rfl (lv_at hl 2 rfl) ?_
  refine kSI (va_runS (As := [.int lt, .int lb, .int x, .int y]) (rest := []) ⟨hx, hb, hml, hown, hts⟩ (c_X3_isBelow l D cI cB lt lb x y  _) (va_cwS 4 hts gX3_raiseLeast_X3_isBelow rfl rfl rfl (by decide +kernel) ⟨Nat.le_of_ble_eq_true rfl, Nat.le_of_ble_eq_true rfl⟩) (preS_nil hK hN) rfl rfl hl.1 rfl (lv_room (Nat.le_of_ble_eq_true rfl)) dX3_raiseLeast_10 ⟨Nat.zero_le _, Nat.zero_le _⟩) ?_
  refine lv_if_eq (tgt := 26) hx hb dX3_raiseLeast_13 (by decide) (fun c_13 => ?_) (fun c_13 => ?_)
  · skip
    have hf_lt : lt = if belowV lt lb x y = 0 then lt else x := by rw [if_pos c_13]
    have hf_lb : lb = if belowV lt lb x y = 0 then lb else y := by rw [if_pos c_13]
    exact hE _ _ _ _ _ hH (((congrArg (fun zz => (spanW a zz lb mt mb)) hf_lt).trans (congrArg (fun zz => (spanW a (if belowV lt lb x y = 0 then lt else x) zz mt mb)) hf_lb))) dX3_raiseLeast_26
  · skip
    refine lv_aload_n hx hb dX3_raiseLeast_16 rfl (lv_at hl 0 rfl) ?_
    refine lv_iload_n hx hb dX3_raiseLeast_17 rfl (lv_at hl 1 rfl) ?_
    refine x_put (ws' := (spanW a x lb mt mb)) (v := .int x) (ty := .int) (C := RX3) (T := TX3) (N := 4) hx hb hts hi3 tyX3_ok nmX3 hown hK hH 0 rfl rfl 0 (by decide) (hts (.fieldLink RX3 9 "PulseWheel$Span" "leastTop" "I") (by decide +kernel)) rfl rfl rfl (rfl) (rfl) (Nat.le_of_ble_eq_true rfl) dX3_raiseLeast_18 (rfl) (fun H locs hH => ?_)
    refine lv_aload_n hx hb dX3_raiseLeast_21 rfl (lv_at hl 0 rfl) ?_
    refine lv_iload_n hx hb dX3_raiseLeast_22 rfl (lv_at hl 2 rfl) ?_
    refine x_put (ws' := (spanW a x y mt mb)) (v := .int y) (ty := .int) (C := RX3) (T := TX3) (N := 4) hx hb hts hi3 tyX3_ok nmX3 hown hK hH 0 rfl rfl 1 (by decide) (hts (.fieldLink RX3 15 "PulseWheel$Span" "leastBottom" "I") (by decide +kernel)) rfl rfl rfl (rfl) (rfl) (Nat.le_of_ble_eq_true rfl) dX3_raiseLeast_23 (rfl) (fun H locs hH => ?_)
    have hf_lt : x = if belowV lt lb x y = 0 then lt else x := by rw [if_neg c_13]
    have hf_lb : y = if belowV lt lb x y = 0 then lb else y := by rw [if_neg c_13]
    exact hE _ _ _ _ _ hH (((congrArg (fun zz => (spanW a zz y mt mb)) hf_lt).trans (congrArg (fun zz => (spanW a (if belowV lt lb x y = 0 then lt else x) zz mt mb)) hf_lb))) dX3_raiseLeast_26

def rm_X3_lowerMost : Room := { frames := 1, cells := 0, slots := 0, locals := 23 }
set_option maxHeartbeats 1000000 in
set_option maxRecDepth 100000 in
theorem c_X3_lowerMost (l : Launch) (D : va_G) (cI cB : ClassId) (a : Nat) (lt : Int32) (lb : Int32) (mt : Int32) (mb : Int32) (x y : Int32) : CV l D cI cB yX3_lowerMost wsX3_lowerMost rm_X3_lowerMost [.ref a, .int x, .int y] (spanW a lt lb mt mb) (spanW a lt lb (if belowV x y mt mb = 0 then mt else x) (if belowV x y mt mb = 0 then mb else y)) := by
  refine CV.of (cc := cX3_lowerMost) (maxL := 3)  (by decide +kernel) rfl (Nat.le_of_ble_eq_true rfl) ?_
  intro p e s m args below meth c ls A0 Q hT hH hA hl hE
  obtain ⟨hx, hb, hr, hlocks, hnm, hml, hown, hts, hK, hN⟩ := hT
  have hl : lv_has ls 3 [(0, .ref a), (1, .int x), (2, .int y)] := hl
  have hi3 : ∀ w ∈ wsX30, w ∈ wsX3_lowerMost := by decide +kernel
  refine lv_iload_n hx hb dX3_lowerMost_0 rfl (lv_at hl 1 rfl) ?_
  refine lv_iload_n hx hb dX3_lowerMost_1 rfl (lv_at hl 2 rfl) ?_
  refine lv_aload_n hx hb dX3_lowerMost_2 rfl (lv_at hl 0 rfl) ?_
  refine x_get (v := .int mt) (C := RX3) (T := TX3) (N := 4) hx hb hts hi3 hown hK hH.1 0 rfl rfl 2 (by decide) (hts (.fieldLink RX3 18 "PulseWheel$Span" "mostTop" "I") (by decide +kernel)) rfl rfl dX3_lowerMost_3 ?_
  refine lv_aload_n hx hb dX3_lowerMost_6 rfl (lv_at hl 0 rfl) ?_
  refine x_get (v := .int mb) (C := RX3) (T := TX3) (N := 4) hx hb hts hi3 hown hK hH.1 0 rfl rfl 3 (by decide) (hts (.fieldLink RX3 21 "PulseWheel$Span" "mostBottom" "I") (by decide +kernel)) rfl rfl dX3_lowerMost_7 ?_
  refine kSI (va_runS (As := [.int x, .int y, .int mt, .int mb]) (rest := []) ⟨hx, hb, hml, hown, hts⟩ (c_X3_isBelow l D cI cB x y mt mb  _) (va_cwS 4 hts gX3_lowerMost_X3_isBelow rfl rfl rfl (by decide +kernel) ⟨Nat.le_of_ble_eq_true rfl, Nat.le_of_ble_eq_true rfl⟩) (preS_nil hK hN) rfl rfl hl.1 rfl (lv_room (Nat.le_of_ble_eq_true rfl)) dX3_lowerMost_10 ⟨Nat.zero_le _, Nat.zero_le _⟩) ?_
  refine lv_if_eq (tgt := 26) hx hb dX3_lowerMost_13 (by decide) (fun c_13 => ?_) (fun c_13 => ?_)
  · skip
    have hf_mt : mt = if belowV x y mt mb = 0 then mt else x := by rw [if_pos c_13]
    have hf_mb : mb = if belowV x y mt mb = 0 then mb else y := by rw [if_pos c_13]
    exact hE _ _ _ _ _ hH (((congrArg (fun zz => (spanW a lt lb zz mb)) hf_mt).trans (congrArg (fun zz => (spanW a lt lb (if belowV x y mt mb = 0 then mt else x) zz)) hf_mb))) dX3_lowerMost_26
  · skip
    refine lv_aload_n hx hb dX3_lowerMost_16 rfl (lv_at hl 0 rfl) ?_
    refine lv_iload_n hx hb dX3_lowerMost_17 rfl (lv_at hl 1 rfl) ?_
    refine x_put (ws' := (spanW a lt lb x mb)) (v := .int x) (ty := .int) (C := RX3) (T := TX3) (N := 4) hx hb hts hi3 tyX3_ok nmX3 hown hK hH 0 rfl rfl 2 (by decide) (hts (.fieldLink RX3 18 "PulseWheel$Span" "mostTop" "I") (by decide +kernel)) rfl rfl rfl (rfl) (rfl) (Nat.le_of_ble_eq_true rfl) dX3_lowerMost_18 (rfl) (fun H locs hH => ?_)
    refine lv_aload_n hx hb dX3_lowerMost_21 rfl (lv_at hl 0 rfl) ?_
    refine lv_iload_n hx hb dX3_lowerMost_22 rfl (lv_at hl 2 rfl) ?_
    refine x_put (ws' := (spanW a lt lb x y)) (v := .int y) (ty := .int) (C := RX3) (T := TX3) (N := 4) hx hb hts hi3 tyX3_ok nmX3 hown hK hH 0 rfl rfl 3 (by decide) (hts (.fieldLink RX3 21 "PulseWheel$Span" "mostBottom" "I") (by decide +kernel)) rfl rfl rfl (rfl) (rfl) (Nat.le_of_ble_eq_true rfl) dX3_lowerMost_23 (rfl) (fun H locs hH => ?_)
    have hf_mt : x = if belowV x y mt mb = 0 then mt else x := by rw [if_neg c_13]
    have hf_mb : y = if belowV x y mt mb = 0 then mb else y := by rw [if_neg c_13]
    exact hE _ _ _ _ _ hH (((congrArg (fun zz => (spanW a lt lb zz y)) hf_mt).trans (congrArg (fun zz => (spanW a lt lb (if belowV x y mt mb = 0 then mt else x) zz)) hf_mb))) dX3_lowerMost_26

def rm_X3_hasMotion : Room := { frames := 1, cells := 0, slots := 0, locals := 23 }
set_option maxHeartbeats 1000000 in
set_option maxRecDepth 100000 in
theorem c_X3_hasMotion (l : Launch) (D : va_G) (cI cB : ClassId) (a : Nat) (lt : Int32) (lb : Int32) (mt : Int32) (mb : Int32) : SI l D cI cB yX3_hasMotion wsX3_hasMotion rm_X3_hasMotion [.ref a] (spanW a lt lb mt mb) (belowV lt lb mt mb) := by
  refine SI.of (cc := cX3_hasMotion) (maxL := 1) (ty := .boolean) (by decide +kernel) rfl (Nat.le_of_ble_eq_true rfl) ?_
  intro p e s m args below meth c ls Q hT hP hD hl hE
  obtain ⟨hx, hb, hr, hlocks, hnm, hml, hown, hts, hK, hN⟩ := hT
  have hl : lv_has ls 1 [(0, .ref a)] := hl
  have hi3 : ∀ w ∈ wsX30, w ∈ wsX3_hasMotion := by decide +kernel
  refine lv_aload_n hx hb dX3_hasMotion_0 rfl (lv_at hl 0 rfl) ?_
  refine x_get (v := .int lt) (C := RX3) (T := TX3) (N := 4) hx hb hts hi3 hown hK hP 0 rfl rfl 0 (by decide) (hts (.fieldLink RX3 9 "PulseWheel$Span" "leastTop" "I") (by decide +kernel)) rfl rfl dX3_hasMotion_1 ?_
  refine lv_aload_n hx hb dX3_hasMotion_4 rfl (lv_at hl 0 rfl) ?_
  refine x_get (v := .int lb) (C := RX3) (T := TX3) (N := 4) hx hb hts hi3 hown hK hP 0 rfl rfl 1 (by decide) (hts (.fieldLink RX3 15 "PulseWheel$Span" "leastBottom" "I") (by decide +kernel)) rfl rfl dX3_hasMotion_5 ?_
  refine lv_aload_n hx hb dX3_hasMotion_8 rfl (lv_at hl 0 rfl) ?_
  refine x_get (v := .int mt) (C := RX3) (T := TX3) (N := 4) hx hb hts hi3 hown hK hP 0 rfl rfl 2 (by decide) (hts (.fieldLink RX3 18 "PulseWheel$Span" "mostTop" "I") (by decide +kernel)) rfl rfl dX3_hasMotion_9 ?_
  refine lv_aload_n hx hb dX3_hasMotion_12 rfl (lv_at hl 0 rfl) ?_
  refine x_get (v := .int mb) (C := RX3) (T := TX3) (N := 4) hx hb hts hi3 hown hK hP 0 rfl rfl 3 (by decide) (hts (.fieldLink RX3 21 "PulseWheel$Span" "mostBottom" "I") (by decide +kernel)) rfl rfl dX3_hasMotion_13 ?_
  refine kSI (va_runS (As := [.int lt, .int lb, .int mt, .int mb]) (rest := []) ⟨hx, hb, hml, hown, hts⟩ (c_X3_isBelow l D cI cB lt lb mt mb  _) (va_cwS 4 hts gX3_hasMotion_X3_isBelow rfl rfl rfl (by decide +kernel) ⟨Nat.le_of_ble_eq_true rfl, Nat.le_of_ble_eq_true rfl⟩) (preS_nil hK hN) rfl rfl hl.1 rfl (lv_room (Nat.le_of_ble_eq_true rfl)) dX3_hasMotion_16 ⟨Nat.zero_le _, Nat.zero_le _⟩) ?_
  exact hE _ _ _ (by rfl) (narrow_below _ _ _ _) dX3_hasMotion_19

theorem gcd_end {fuel : Nat} {x y g : Int32} (hg : gcdF (fuel + 1 - 1) x y = g) (h : y = 0) : x = g := by
  rw [← hg]
  rcases fuel with _ | z
  · rfl
  · rw [show z + 1 + 1 - 1 = z + 1 from rfl, gcdF_s, if_pos h]

def rm_X3_greatestDivisor : Room := { frames := 0, cells := 0, slots := 0, locals := 0 }
set_option maxHeartbeats 1000000 in
set_option maxRecDepth 100000 in
theorem c_X3_greatestDivisor (l : Launch) (D : va_G) (cI cB : ClassId) (one oth : Int32) : SI l D cI cB yX3_greatestDivisor wsX3_greatestDivisor rm_X3_greatestDivisor [.int one, .int oth] [] (gcdF 100 one oth) := by
  refine SI.of (cc := cX3_greatestDivisor) (maxL := 6) (ty := .int) (by decide +kernel) rfl (Nat.le_of_ble_eq_true rfl) ?_
  intro p e s m args below meth c ls Q hT hP hD hl hE
  obtain ⟨hx, hb, hr, hlocks, hnm, hml, hown, hts, hK, hN⟩ := hT
  have hl : lv_has ls 6 [(0, .int one), (1, .int oth)] := hl
  refine lv_iload_n hx hb dX3_greatestDivisor_0 rfl (lv_at hl 0 rfl) ?_
  refine lv_istore_n (lv' := [(2, .int one), (0, .int one), (1, .int oth)]) hx hb dX3_greatestDivisor_1 rfl hl (by decide) rfl (fun ls hl => ?_)
  refine lv_iload_n hx hb dX3_greatestDivisor_2 rfl (lv_at hl 2 rfl) ?_
  refine lv_istore_n (lv' := [(3, .int oth), (2, .int one), (0, .int one), (1, .int oth)]) hx hb dX3_greatestDivisor_3 rfl hl (by decide) rfl (fun ls hl => ?_)
  refine lv_iconst (v := 0) hx hb dX3_greatestDivisor_4 (by decide) ?_
  refine lv_istore (lv' := [(4, .int 0), (3, .int oth), (2, .int one), (0, .int one), (1, .int oth)]) hx hb dX3_greatestDivisor_5 hl (by decide) rfl (fun ls hl => ?_)
  have lp : ∀ (fuel : Nat) (i : Nat) (x : Int32) (y : Int32), (i ≤ 100) → (i + fuel = 101) → (gcdF (fuel - 1) x y = gcdF 100 one oth) → ∀ (ls : Array Slot), lv_has ls 6 [(0, .int one), (1, .int oth), (2, .int x), (3, .int y), (4, .int (nI i))] → W p l e rm_X3_greatestDivisor s m args below meth c s.heap [] 0 0 Q (F0 m 7 ls []) := by
    intro fuel
    induction fuel with
    | zero => intro i x y hi hm hg ls hl; exact absurd hm (by omega)
    | succ fuel ih =>
      intro i x y hi hm hg ls hl
      refine lv_iload hx hb dX3_greatestDivisor_7 (lv_at hl 4 rfl) ?_
      refine lv_bipush (v := 100) hx hb dX3_greatestDivisor_9 (by decide) ?_
      refine lv_icmp_ge (tgt := 34) hx hb dX3_greatestDivisor_11 (by decide) (fun c_11 => ?_) (fun c_11 => ?_)
      · skip
        refine lv_iload_n hx hb dX3_greatestDivisor_34 rfl (lv_at hl 2 rfl) ?_
        exact hE _ _ _ (by rw [← hg]; have h7 := (nI_leI (a := 100) (by decide) (by omega)).mp c_11; rw [show fuel + 1 - 1 = 0 by omega]; rfl) rfl dX3_greatestDivisor_35
      · skip
        refine lv_iload_n hx hb dX3_greatestDivisor_14 rfl (lv_at hl 3 rfl) ?_
        refine lv_if_eq (tgt := 34) hx hb dX3_greatestDivisor_15 (by decide) (fun c_15 => ?_) (fun c_15 => ?_)
        · skip
          refine lv_iload_n hx hb dX3_greatestDivisor_34 rfl (lv_at hl 2 rfl) ?_
          exact hE _ _ _ (by exact gcd_end hg c_15) rfl dX3_greatestDivisor_35
        · skip
          refine lv_iload_n hx hb dX3_greatestDivisor_18 rfl (lv_at hl 2 rfl) ?_
          refine lv_iload_n hx hb dX3_greatestDivisor_19 rfl (lv_at hl 3 rfl) ?_
          refine lv_irem hx hb dX3_greatestDivisor_20 (c_15) ?_
          refine lv_istore (lv' := [(5, .int (x - x / y * y)), (0, .int one), (1, .int oth), (2, .int x), (3, .int y), (4, .int (nI i))]) hx hb dX3_greatestDivisor_21 hl (by decide) rfl (fun ls hl => ?_)
          refine lv_iload_n hx hb dX3_greatestDivisor_23 rfl (lv_at hl 4 rfl) ?_
          refine lv_istore_n (lv' := [(2, .int y), (5, .int (x - x / y * y)), (0, .int one), (1, .int oth), (3, .int y), (4, .int (nI i))]) hx hb dX3_greatestDivisor_24 rfl hl (by decide) rfl (fun ls hl => ?_)
          refine lv_iload hx hb dX3_greatestDivisor_25 (lv_at hl 1 rfl) ?_
          refine lv_istore_n (lv' := [(3, .int (x - x / y * y)), (2, .int y), (5, .int (x - x / y * y)), (0, .int one), (1, .int oth), (4, .int (nI i))]) hx hb dX3_greatestDivisor_27 rfl hl (by decide) rfl (fun ls hl => ?_)
          refine lv_iinc (v := nI (i + 1)) (lv' := [(4, .int (nI (i + 1))), (3, .int (x - x / y * y)), (2, .int y), (5, .int (x - x / y * y)), (0, .int one), (1, .int oth)]) hx hb dX3_greatestDivisor_28 hl (k := 5) rfl (nI_1 i) (by decide) rfl (fun ls hl => ?_)
          refine lv_goto (tgt := 7) hx hb dX3_greatestDivisor_31 (by decide) ?_
          exact ih (i + 1) y (x - x / y * y) (by have h1 : i < 100 := lt_of_nI (n := 100) (by omega) c_11; omega) (by omega) (by rw [← hg]; have h1 : i < 100 := lt_of_nI (n := 100) (by omega) c_11; obtain ⟨z, hz⟩ : ∃ z, fuel = z + 1 := ⟨fuel - 1, by omega⟩; subst hz; rw [show z + 1 + 1 - 1 = z + 1 from rfl, gcdF_s, if_neg c_15]; rfl) ls (lv_sub hl [4, 5, 2, 1, 0] rfl)
  exact lp 101 0 one oth (by decide) (rfl) (rfl) ls (lv_sub hl [3, 4, 2, 1, 0] rfl)

def rm_X3_reduced : Room := { frames := 1, cells := 0, slots := 0, locals := 25 }
set_option maxHeartbeats 1000000 in
set_option maxRecDepth 100000 in
theorem c_X3_reduced (l : Launch) (D : va_G) (cI cB : ClassId) (x y : Int32) : SI l D cI cB yX3_reduced wsX3_reduced rm_X3_reduced [.int x, .int y] [] (redV x y) := by
  refine SI.of (cc := cX3_reduced) (maxL := 3) (ty := .int) (by decide +kernel) rfl (Nat.le_of_ble_eq_true rfl) ?_
  intro p e s m args below meth c ls Q hT hP hD hl hE
  obtain ⟨hx, hb, hr, hlocks, hnm, hml, hown, hts, hK, hN⟩ := hT
  have hl : lv_has ls 3 [(0, .int x), (1, .int y)] := hl
  refine lv_iload_n hx hb dX3_reduced_0 rfl (lv_at hl 0 rfl) ?_
  refine lv_iload_n hx hb dX3_reduced_1 rfl (lv_at hl 1 rfl) ?_
  refine kSI (va_runS (As := [.int x, .int y]) (rest := []) ⟨hx, hb, hml, hown, hts⟩ (c_X3_greatestDivisor l D cI cB x y  _) (va_cwS 2 hts gX3_reduced_X3_greatestDivisor rfl rfl rfl (by decide +kernel) ⟨Nat.le_of_ble_eq_true rfl, Nat.le_of_ble_eq_true rfl⟩) (preS_nil hK hN) rfl rfl hl.1 rfl (lv_room (Nat.le_of_ble_eq_true rfl)) dX3_reduced_2 ⟨Nat.zero_le _, Nat.zero_le _⟩) ?_
  refine lv_istore_n (lv' := [(2, .int (gcdF 100 x y)), (0, .int x), (1, .int y)]) hx hb dX3_reduced_5 rfl hl (by decide) rfl (fun ls hl => ?_)
  refine lv_iload_n hx hb dX3_reduced_6 rfl (lv_at hl 0 rfl) ?_
  refine lv_if_ne (tgt := 14) hx hb dX3_reduced_7 (by decide) (fun c_7 => ?_) (fun c_7 => ?_)
  · skip
    refine lv_iload_n hx hb dX3_reduced_14 rfl (lv_at hl 1 rfl) ?_
    refine lv_iload_n hx hb dX3_reduced_15 rfl (lv_at hl 0 rfl) ?_
    refine lv_idiv hx hb dX3_reduced_16 (c_7) ?_
    exact hE _ _ _ (by first | rfl | (unfold redV; rw [if_neg c_7]; done) | (simp only [redV, if_neg c_7]; done) | (simp only [redV, c_7, if_true, if_false]; done) | (simp only [redV, c_7, if_true, if_false, not_true, not_false_iff, reduceIte]; done) | (exfalso; simp_all; done) | (simp [redV, c_7]; done) | (simp_all [redV]; done)) rfl dX3_reduced_17
  · skip
    refine lv_iload_n hx hb dX3_reduced_10 rfl (lv_at hl 1 rfl) ?_
    refine lv_goto (tgt := 17) hx hb dX3_reduced_11 (by decide) ?_
    exact hE _ _ _ (by first | rfl | (unfold redV; rw [if_pos c_7]; done) | (simp only [redV, if_pos c_7]; done) | (simp only [redV, c_7, if_true, if_false]; done) | (simp only [redV, c_7, if_true, if_false, not_true, not_false_iff, reduceIte]; done) | (exfalso; simp_all; done) | (simp [redV, c_7]; done) | (simp_all [redV]; done)) rfl dX3_reduced_17

def rm_X3_part : Room := { frames := 2, cells := 0, slots := 0, locals := 47 }
set_option maxHeartbeats 1000000 in
set_option maxRecDepth 100000 in
theorem c_X3_part (l : Launch) (D : va_G) (cI cB : ClassId) (a : Nat) (lt : Int32) (lb : Int32) (mt : Int32) (mb : Int32) (w : Int32) : SI l D cI cB yX3_part wsX3_part rm_X3_part [.ref a, .int w] (spanW a lt lb mt mb) (partV lt lb mt mb w) := by
  refine SI.of (cc := cX3_part) (maxL := 2) (ty := .int) (by decide +kernel) rfl (Nat.le_of_ble_eq_true rfl) ?_
  intro p e s m args below meth c ls Q hT hP hD hl hE
  obtain ⟨hx, hb, hr, hlocks, hnm, hml, hown, hts, hK, hN⟩ := hT
  have hl : lv_has ls 2 [(0, .ref a), (1, .int w)] := hl
  have hi3 : ∀ w ∈ wsX30, w ∈ wsX3_part := by decide +kernel
  refine lv_iload_n hx hb dX3_part_0 rfl (lv_at hl 1 rfl) ?_
  by_cases c_1_0 : w = 0
  · refine lv_tableIn (tgt := 32) hx hb dX3_part_1 (by rw [c_1_0]; decide) (by rw [c_1_0]; decide) (by rw [c_1_0]; rfl) (by decide) ?_
    refine lv_aload_n hx hb dX3_part_32 rfl (lv_at hl 0 rfl) ?_
    refine x_get (v := .int lt) (C := RX3) (T := TX3) (N := 4) hx hb hts hi3 hown hK hP 0 rfl rfl 0 (by decide) (hts (.fieldLink RX3 9 "PulseWheel$Span" "leastTop" "I") (by decide +kernel)) rfl rfl dX3_part_33 ?_
    refine lv_aload_n hx hb dX3_part_36 rfl (lv_at hl 0 rfl) ?_
    refine x_get (v := .int lb) (C := RX3) (T := TX3) (N := 4) hx hb hts hi3 hown hK hP 0 rfl rfl 1 (by decide) (hts (.fieldLink RX3 15 "PulseWheel$Span" "leastBottom" "I") (by decide +kernel)) rfl rfl dX3_part_37 ?_
    refine kSI (va_runS (As := [.int lt, .int lb]) (rest := []) ⟨hx, hb, hml, hown, hts⟩ (c_X3_reduced l D cI cB lt lb  _) (va_cwS 2 hts gX3_part_X3_reduced rfl rfl rfl (by decide +kernel) ⟨Nat.le_of_ble_eq_true rfl, Nat.le_of_ble_eq_true rfl⟩) (preS_nil hK hN) rfl rfl hl.1 rfl (lv_room (Nat.le_of_ble_eq_true rfl)) dX3_part_40 ⟨Nat.zero_le _, Nat.zero_le _⟩) ?_
    exact hE _ _ _ (by first | rfl | (unfold partV; rw [if_pos c_1_0]; done) | (simp only [partV, if_pos c_1_0]; done) | (simp only [partV, c_1_0, if_true, if_false]; done) | (simp only [partV, c_1_0, if_true, if_false, not_true, not_false_iff, reduceIte]; done) | (exfalso; simp_all; done) | (simp [partV, c_1_0]; done) | (simp_all [partV]; done)) rfl dX3_part_43
  by_cases c_1_1 : w = 1
  · refine lv_tableIn (tgt := 44) hx hb dX3_part_1 (by rw [c_1_1]; decide) (by rw [c_1_1]; decide) (by rw [c_1_1]; rfl) (by decide) ?_
    refine lv_aload_n hx hb dX3_part_44 rfl (lv_at hl 0 rfl) ?_
    refine x_get (v := .int lb) (C := RX3) (T := TX3) (N := 4) hx hb hts hi3 hown hK hP 0 rfl rfl 1 (by decide) (hts (.fieldLink RX3 15 "PulseWheel$Span" "leastBottom" "I") (by decide +kernel)) rfl rfl dX3_part_45 ?_
    refine lv_aload_n hx hb dX3_part_48 rfl (lv_at hl 0 rfl) ?_
    refine x_get (v := .int lt) (C := RX3) (T := TX3) (N := 4) hx hb hts hi3 hown hK hP 0 rfl rfl 0 (by decide) (hts (.fieldLink RX3 9 "PulseWheel$Span" "leastTop" "I") (by decide +kernel)) rfl rfl dX3_part_49 ?_
    refine kSI (va_runS (As := [.int lb, .int lt]) (rest := []) ⟨hx, hb, hml, hown, hts⟩ (c_X3_reduced l D cI cB lb lt  _) (va_cwS 2 hts gX3_part_X3_reduced rfl rfl rfl (by decide +kernel) ⟨Nat.le_of_ble_eq_true rfl, Nat.le_of_ble_eq_true rfl⟩) (preS_nil hK hN) rfl rfl hl.1 rfl (lv_room (Nat.le_of_ble_eq_true rfl)) dX3_part_52 ⟨Nat.zero_le _, Nat.zero_le _⟩) ?_
    exact hE _ _ _ (by first | rfl | (unfold partV; rw [if_neg c_1_0, if_pos c_1_1]; done) | (simp only [partV, if_neg c_1_0, if_pos c_1_1]; done) | (simp only [partV, c_1_0, c_1_1, if_true, if_false]; done) | (simp only [partV, c_1_0, c_1_1, if_true, if_false, not_true, not_false_iff, reduceIte]; done) | (exfalso; simp_all; done) | (simp [partV, c_1_0, c_1_1]; done) | (simp_all [partV]; done)) rfl dX3_part_55
  by_cases c_1_2 : w = 2
  · refine lv_tableIn (tgt := 56) hx hb dX3_part_1 (by rw [c_1_2]; decide) (by rw [c_1_2]; decide) (by rw [c_1_2]; rfl) (by decide) ?_
    refine lv_aload_n hx hb dX3_part_56 rfl (lv_at hl 0 rfl) ?_
    refine x_get (v := .int mt) (C := RX3) (T := TX3) (N := 4) hx hb hts hi3 hown hK hP 0 rfl rfl 2 (by decide) (hts (.fieldLink RX3 18 "PulseWheel$Span" "mostTop" "I") (by decide +kernel)) rfl rfl dX3_part_57 ?_
    refine lv_aload_n hx hb dX3_part_60 rfl (lv_at hl 0 rfl) ?_
    refine x_get (v := .int mb) (C := RX3) (T := TX3) (N := 4) hx hb hts hi3 hown hK hP 0 rfl rfl 3 (by decide) (hts (.fieldLink RX3 21 "PulseWheel$Span" "mostBottom" "I") (by decide +kernel)) rfl rfl dX3_part_61 ?_
    refine kSI (va_runS (As := [.int mt, .int mb]) (rest := []) ⟨hx, hb, hml, hown, hts⟩ (c_X3_reduced l D cI cB mt mb  _) (va_cwS 2 hts gX3_part_X3_reduced rfl rfl rfl (by decide +kernel) ⟨Nat.le_of_ble_eq_true rfl, Nat.le_of_ble_eq_true rfl⟩) (preS_nil hK hN) rfl rfl hl.1 rfl (lv_room (Nat.le_of_ble_eq_true rfl)) dX3_part_64 ⟨Nat.zero_le _, Nat.zero_le _⟩) ?_
    exact hE _ _ _ (by first | rfl | (unfold partV; rw [if_neg c_1_0, if_neg c_1_1, if_pos c_1_2]; done) | (simp only [partV, if_neg c_1_0, if_neg c_1_1, if_pos c_1_2]; done) | (simp only [partV, c_1_0, c_1_1, c_1_2, if_true, if_false]; done) | (simp only [partV, c_1_0, c_1_1, c_1_2, if_true, if_false, not_true, not_false_iff, reduceIte]; done) | (exfalso; simp_all; done) | (simp [partV, c_1_0, c_1_1, c_1_2]; done) | (simp_all [partV]; done)) rfl dX3_part_67
  by_cases c_1_3 : w = 3
  · refine lv_tableIn (tgt := 68) hx hb dX3_part_1 (by rw [c_1_3]; decide) (by rw [c_1_3]; decide) (by rw [c_1_3]; rfl) (by decide) ?_
    refine lv_aload_n hx hb dX3_part_68 rfl (lv_at hl 0 rfl) ?_
    refine x_get (v := .int mb) (C := RX3) (T := TX3) (N := 4) hx hb hts hi3 hown hK hP 0 rfl rfl 3 (by decide) (hts (.fieldLink RX3 21 "PulseWheel$Span" "mostBottom" "I") (by decide +kernel)) rfl rfl dX3_part_69 ?_
    refine lv_aload_n hx hb dX3_part_72 rfl (lv_at hl 0 rfl) ?_
    refine x_get (v := .int mt) (C := RX3) (T := TX3) (N := 4) hx hb hts hi3 hown hK hP 0 rfl rfl 2 (by decide) (hts (.fieldLink RX3 18 "PulseWheel$Span" "mostTop" "I") (by decide +kernel)) rfl rfl dX3_part_73 ?_
    refine kSI (va_runS (As := [.int mb, .int mt]) (rest := []) ⟨hx, hb, hml, hown, hts⟩ (c_X3_reduced l D cI cB mb mt  _) (va_cwS 2 hts gX3_part_X3_reduced rfl rfl rfl (by decide +kernel) ⟨Nat.le_of_ble_eq_true rfl, Nat.le_of_ble_eq_true rfl⟩) (preS_nil hK hN) rfl rfl hl.1 rfl (lv_room (Nat.le_of_ble_eq_true rfl)) dX3_part_76 ⟨Nat.zero_le _, Nat.zero_le _⟩) ?_
    exact hE _ _ _ (by first | rfl | (unfold partV; rw [if_neg c_1_0, if_neg c_1_1, if_neg c_1_2, if_pos c_1_3]; done) | (simp only [partV, if_neg c_1_0, if_neg c_1_1, if_neg c_1_2, if_pos c_1_3]; done) | (simp only [partV, c_1_0, c_1_1, c_1_2, c_1_3, if_true, if_false]; done) | (simp only [partV, c_1_0, c_1_1, c_1_2, c_1_3, if_true, if_false, not_true, not_false_iff, reduceIte]; done) | (exfalso; simp_all; done) | (simp [partV, c_1_0, c_1_1, c_1_2, c_1_3]; done) | (simp_all [partV]; done)) rfl dX3_part_79
  have k_1_0 : ¬ Int32.toInt w = 0 := fun h => c_1_0 (Int32.toInt_inj.mp (h.trans (by decide)))
  have k_1_1 : ¬ Int32.toInt w = 1 := fun h => c_1_1 (Int32.toInt_inj.mp (h.trans (by decide)))
  have k_1_2 : ¬ Int32.toInt w = 2 := fun h => c_1_2 (Int32.toInt_inj.mp (h.trans (by decide)))
  have k_1_3 : ¬ Int32.toInt w = 3 := fun h => c_1_3 (Int32.toInt_inj.mp (h.trans (by decide)))
  refine lv_tableOut (tgt := 80) hx hb dX3_part_1 (by omega) (by decide) ?_
  refine lv_iconst (v := -1) hx hb dX3_part_80 (by decide) ?_
  exact hE _ _ _ (by first | rfl | (unfold partV; rw [if_neg c_1_0, if_neg c_1_1, if_neg c_1_2, if_neg c_1_3]; done) | (simp only [partV, if_neg c_1_0, if_neg c_1_1, if_neg c_1_2, if_neg c_1_3]; done) | (simp only [partV, c_1_0, c_1_1, c_1_2, c_1_3, if_true, if_false]; done) | (simp only [partV, c_1_0, c_1_1, c_1_2, c_1_3, if_true, if_false, not_true, not_false_iff, reduceIte]; done) | (exfalso; simp_all; done) | (simp [partV, c_1_0, c_1_1, c_1_2, c_1_3]; done) | (simp_all [partV]; done)) rfl dX3_part_81

def rm_X5_imageBits : Room := { frames := 0, cells := 0, slots := 0, locals := 0 }
set_option maxHeartbeats 1000000 in
set_option maxRecDepth 100000 in
theorem c_X5_imageBits (l : Launch) (D : va_G) (cI cB : ClassId) (P : Nat → Nat) (b : Nat) (A1 : Nat → Nat) (A2 : Nat → Nat) (tw : Int32) (im : Nat → Option Nat) (tp : Nat → Int32) (t : Int32) (ap : Int32) (r1 : Tb) (r2 : Tb) : SI l D cI cB yX5_imageBits wsX5_imageBits rm_X5_imageBits [.ref (P 0)] (pwW P b A1 A2 cI cB tw im tp t ap r1 r2) (imgB im 4) := by
  refine SI.of (cc := cX5_imageBits) (maxL := 3) (ty := .int) (by decide +kernel) rfl (Nat.le_of_ble_eq_true rfl) ?_
  intro p e s m args below meth c ls Q hT hP hD hl hE
  obtain ⟨hx, hb, hr, hlocks, hnm, hml, hown, hts, hK, hN⟩ := hT
  have hl : lv_has ls 3 [(0, .ref (P 0))] := hl
  have hi5 : ∀ w ∈ wsX50, w ∈ wsX5_imageBits := by decide +kernel
  refine lv_iconst (v := 0) hx hb dX5_imageBits_0 (by decide) ?_
  refine lv_istore_n (lv' := [(1, .int 0), (0, .ref (P 0))]) hx hb dX5_imageBits_1 rfl hl (by decide) rfl (fun ls hl => ?_)
  refine lv_iconst (v := 0) hx hb dX5_imageBits_2 (by decide) ?_
  refine lv_istore_n (lv' := [(2, .int 0), (1, .int 0), (0, .ref (P 0))]) hx hb dX5_imageBits_3 rfl hl (by decide) rfl (fun ls hl => ?_)
  have lp : ∀ (fuel : Nat) (i : Nat) (bt : Int32), (i ≤ 4) → (4 < i + fuel) → (bt = imgB im i) → ∀ (ls : Array Slot), lv_has ls 3 [(0, .ref (P 0)), (1, .int bt), (2, .int (nI i))] → W p l e rm_X5_imageBits s m args below meth c s.heap [] 0 0 Q (F0 m 4 ls []) := by
    intro fuel
    induction fuel with
    | zero => intro i bt hi hm hbt ls hl; exact absurd hm (by omega)
    | succ fuel ih =>
      intro i bt hi hm hbt ls hl
      refine lv_iload_n hx hb dX5_imageBits_4 rfl (lv_at hl 2 rfl) ?_
      refine lv_aload_n hx hb dX5_imageBits_5 rfl (lv_at hl 0 rfl) ?_
      refine x_get (v := .ref (P 1)) (C := RX5) (T := TX5) (N := 4) hx hb hts hi5 hown hK hP 0 rfl rfl 1 (by decide) (hts (.fieldLink RX5 16 "PulseWheel" "images" "[LPulseWheel$Bench;") (by decide +kernel)) rfl rfl dX5_imageBits_6 ?_
      refine va_alen (v := 4) hx hb hK hP 1 1 rfl rfl rfl dX5_imageBits_9 ?_
      refine lv_icmp_ge (tgt := 34) hx hb dX5_imageBits_10 (by decide) (fun c_10 => ?_) (fun c_10 => ?_)
      · skip
        refine lv_iload_n hx hb dX5_imageBits_34 rfl (lv_at hl 1 rfl) ?_
        exact hE _ _ _ (by have h7 := (nI_leI (a := 4) (by decide) (by omega)).mp c_10; rw [hbt, show i = 4 by omega]) rfl dX5_imageBits_35
      · skip
        have hlt : i < 4 := lt_of_nI (n := 4) (by omega) c_10
        refine lv_aload_n hx hb dX5_imageBits_13 rfl (lv_at hl 0 rfl) ?_
        refine x_get (v := .ref (P 1)) (C := RX5) (T := TX5) (N := 4) hx hb hts hi5 hown hK hP 0 rfl rfl 1 (by decide) (hts (.fieldLink RX5 16 "PulseWheel" "images" "[LPulseWheel$Bench;") (by decide +kernel)) rfl rfl dX5_imageBits_14 ?_
        refine lv_iload_n hx hb dX5_imageBits_17 rfl (lv_at hl 2 rfl) ?_
        have hq_1 := ix_in (i := (nI i)) (n := 4) i (rfl) (hlt) (by decide)
        rcases hI_18 : im i with _ | q_18
        · refine x_aldN hx hb hK hP 1 rfl hq_1.1 (by rw [hq_1.2]; exact hI_18) dX5_imageBits_18 ?_
          refine lv_ifnullN (tgt := 28) hx hb dX5_imageBits_19 (by decide) ?_
          refine lv_iinc (v := nI (i + 1)) (lv' := [(2, .int (nI (i + 1))), (0, .ref (P 0)), (1, .int bt)]) hx hb dX5_imageBits_28 hl (k := 2) rfl (nI_1 i) (by decide) rfl (fun ls hl => ?_)
          refine lv_goto (tgt := 4) hx hb dX5_imageBits_31 (by decide) ?_
          exact ih (i + 1) bt (by omega) (by omega) (by subst hbt; rw [imgB_s, if_pos hI_18]) ls (lv_sub hl [1, 2, 0] rfl)
        · refine x_aldS hx hb hK hP 1 rfl hq_1.1 (by rw [hq_1.2]; exact hI_18) dX5_imageBits_18 ?_
          refine lv_ifnull hx hb dX5_imageBits_19 ?_
          refine lv_iload_n hx hb dX5_imageBits_22 rfl (lv_at hl 1 rfl) ?_
          refine lv_iconst (v := 1) hx hb dX5_imageBits_23 (by decide) ?_
          refine lv_iload_n hx hb dX5_imageBits_24 rfl (lv_at hl 2 rfl) ?_
          refine lv_ishl hx hb dX5_imageBits_25 ?_
          refine x_top (y := bitV i) (rfl) ?_
          refine lv_ior hx hb dX5_imageBits_26 ?_
          refine lv_istore_n (lv' := [(1, .int (bt ||| (bitV i))), (0, .ref (P 0)), (2, .int (nI i))]) hx hb dX5_imageBits_27 rfl hl (by decide) rfl (fun ls hl => ?_)
          refine lv_iinc (v := nI (i + 1)) (lv' := [(2, .int (nI (i + 1))), (1, .int (bt ||| (bitV i))), (0, .ref (P 0))]) hx hb dX5_imageBits_28 hl (k := 2) rfl (nI_1 i) (by decide) rfl (fun ls hl => ?_)
          refine lv_goto (tgt := 4) hx hb dX5_imageBits_31 (by decide) ?_
          exact ih (i + 1) (bt ||| (bitV i)) (by omega) (by omega) (by subst hbt; rw [imgB_s, if_neg (by rw [hI_18]; exact fun h => by cases h)]) ls (lv_sub hl [2, 1, 0] rfl)
  exact lp 5 0 0 (by decide) (by decide) (rfl) ls (lv_sub hl [2, 1, 0] rfl)

def rm_X5_about : Room := { frames := 1, cells := 0, slots := 0, locals := 22 }
set_option maxHeartbeats 1000000 in
set_option maxRecDepth 100000 in
theorem c_X5_about (l : Launch) (D : va_G) (cI cB : ClassId) (P : Nat → Nat) (b : Nat) (A1 : Nat → Nat) (A2 : Nat → Nat) (tw : Int32) (im : Nat → Option Nat) (tp : Nat → Int32) (t : Int32) (ap : Int32) (r1 : Tb) (r2 : Tb) (w : Int32) : SI l D cI cB yX5_about wsX5_about rm_X5_about [.ref (P 0), .int w] (pwW P b A1 A2 cI cB tw im tp t ap r1 r2) (aboutV t tw im w) := by
  refine SI.of (cc := cX5_about) (maxL := 2) (ty := .int) (by decide +kernel) rfl (Nat.le_of_ble_eq_true rfl) ?_
  intro p e s m args below meth c ls Q hT hP hD hl hE
  obtain ⟨hx, hb, hr, hlocks, hnm, hml, hown, hts, hK, hN⟩ := hT
  have hl : lv_has ls 2 [(0, .ref (P 0)), (1, .int w)] := hl
  have hi0 : ∀ w ∈ wsX00, w ∈ wsX5_about := by decide +kernel
  have hi5 : ∀ w ∈ wsX50, w ∈ wsX5_about := by decide +kernel
  refine lv_iload_n hx hb dX5_about_0 rfl (lv_at hl 1 rfl) ?_
  by_cases c_1_0 : w = 0
  · refine lv_tableIn (tgt := 28) hx hb dX5_about_1 (by rw [c_1_0]; decide) (by rw [c_1_0]; decide) (by rw [c_1_0]; rfl) (by decide) ?_
    refine lv_aload_n hx hb dX5_about_28 rfl (lv_at hl 0 rfl) ?_
    refine x_get (v := .ref b) (C := RX5) (T := TX5) (N := 4) hx hb hts hi5 hown hK hP 0 rfl rfl 0 (by decide) (hts (.fieldLink RX5 10 "PulseWheel" "bench" "LPulseWheel$Bench;") (by decide +kernel)) rfl rfl dX5_about_29 ?_
    refine x_getN (v := .int t) (C := RX0) (T := TX0) (N := 4) hx hb hts hi0 hown hK hP 3 rfl rfl 2 (by decide) (nwf5_34 (args := args) hN) rfl rfl dX5_about_32 ?_
    exact hE _ _ _ (by first | rfl | (unfold aboutV; rw [if_pos c_1_0]; done) | (simp only [aboutV, if_pos c_1_0]; done) | (simp only [aboutV, c_1_0, if_true, if_false]; done) | (simp only [aboutV, c_1_0, if_true, if_false, not_true, not_false_iff, reduceIte]; done) | (exfalso; simp_all; done) | (simp [aboutV, c_1_0]; done) | (simp_all [aboutV]; done)) rfl dX5_about_35
  by_cases c_1_1 : w = 1
  · refine lv_tableIn (tgt := 36) hx hb dX5_about_1 (by rw [c_1_1]; decide) (by rw [c_1_1]; decide) (by rw [c_1_1]; rfl) (by decide) ?_
    refine lv_aload_n hx hb dX5_about_36 rfl (lv_at hl 0 rfl) ?_
    refine kSI (va_runV (As := []) (rest := []) ⟨hx, hb, hml, hown, hts⟩ (c_X5_tapeBytes l D cI cB P b A1 A2 tw im tp t ap r1 r2  _) (cwV 0 hts gX5_about_X5_tapeBytes rfl rfl rfl (by decide +kernel) ⟨Nat.le_of_ble_eq_true rfl, Nat.le_of_ble_eq_true rfl⟩) (preV_cut hP hD hK hN (ci := 5) rfl 0 rfl [0, 1, 2, 3, 4, 5, 6, 7, 8, 9, 10, 11, 12, 13, 14, 15, 16, 17, 18, 19, 20, 21] (by decide) rfl) rfl rfl hl.1 rfl (lv_room (Nat.le_of_ble_eq_true rfl)) dX5_about_37 ⟨Nat.zero_le _, Nat.zero_le _⟩) ?_
    exact hE _ _ _ (by first | rfl | (unfold aboutV; rw [if_neg c_1_0, if_pos c_1_1]; done) | (simp only [aboutV, if_neg c_1_0, if_pos c_1_1]; done) | (simp only [aboutV, c_1_0, c_1_1, if_true, if_false]; done) | (simp only [aboutV, c_1_0, c_1_1, if_true, if_false, not_true, not_false_iff, reduceIte]; done) | (exfalso; simp_all; done) | (simp [aboutV, c_1_0, c_1_1]; done) | (simp_all [aboutV]; done)) rfl dX5_about_40
  by_cases c_1_2 : w = 2
  · refine lv_tableIn (tgt := 41) hx hb dX5_about_1 (by rw [c_1_2]; decide) (by rw [c_1_2]; decide) (by rw [c_1_2]; rfl) (by decide) ?_
    refine lv_aload_n hx hb dX5_about_41 rfl (lv_at hl 0 rfl) ?_
    refine kSI (va_runV (As := []) (rest := []) ⟨hx, hb, hml, hown, hts⟩ (c_X5_imageBits l D cI cB P b A1 A2 tw im tp t ap r1 r2  _) (cwV 0 hts gX5_about_X5_imageBits rfl rfl rfl (by decide +kernel) ⟨Nat.le_of_ble_eq_true rfl, Nat.le_of_ble_eq_true rfl⟩) (preV_cut hP hD hK hN (ci := 5) rfl 0 rfl [0, 1, 2, 3, 4, 5, 6, 7, 8, 9, 10, 11, 12, 13, 14, 15, 16, 17, 18, 19, 20, 21] (by decide) rfl) rfl rfl hl.1 rfl (lv_room (Nat.le_of_ble_eq_true rfl)) dX5_about_42 ⟨Nat.zero_le _, Nat.zero_le _⟩) ?_
    exact hE _ _ _ (by first | rfl | (unfold aboutV; rw [if_neg c_1_0, if_neg c_1_1, if_pos c_1_2]; done) | (simp only [aboutV, if_neg c_1_0, if_neg c_1_1, if_pos c_1_2]; done) | (simp only [aboutV, c_1_0, c_1_1, c_1_2, if_true, if_false]; done) | (simp only [aboutV, c_1_0, c_1_1, c_1_2, if_true, if_false, not_true, not_false_iff, reduceIte]; done) | (exfalso; simp_all; done) | (simp [aboutV, c_1_0, c_1_1, c_1_2]; done) | (simp_all [aboutV]; done)) rfl dX5_about_45
  have k_1_0 : ¬ Int32.toInt w = 0 := fun h => c_1_0 (Int32.toInt_inj.mp (h.trans (by decide)))
  have k_1_1 : ¬ Int32.toInt w = 1 := fun h => c_1_1 (Int32.toInt_inj.mp (h.trans (by decide)))
  have k_1_2 : ¬ Int32.toInt w = 2 := fun h => c_1_2 (Int32.toInt_inj.mp (h.trans (by decide)))
  refine lv_tableOut (tgt := 46) hx hb dX5_about_1 (by omega) (by decide) ?_
  refine lv_iconst (v := -1) hx hb dX5_about_46 (by decide) ?_
  exact hE _ _ _ (by first | rfl | (unfold aboutV; rw [if_neg c_1_0, if_neg c_1_1, if_neg c_1_2]; done) | (simp only [aboutV, if_neg c_1_0, if_neg c_1_1, if_neg c_1_2]; done) | (simp only [aboutV, c_1_0, c_1_1, c_1_2, if_true, if_false]; done) | (simp only [aboutV, c_1_0, c_1_1, c_1_2, if_true, if_false, not_true, not_false_iff, reduceIte]; done) | (exfalso; simp_all; done) | (simp [aboutV, c_1_0, c_1_1, c_1_2]; done) | (simp_all [aboutV]; done)) rfl dX5_about_47
