/-! ### the class's period -/
theorem Hd.tail {D : va_G} {A : Nat → Prop} {s : State} {a b : va_W} {H : Heap} {locs : List Loc} (h : Hd D A s (a ++ b) H locs) : Hd D A s b H locs := ⟨h.1.right, h.2.1.right, h.2.2⟩
theorem perm_cut {ws x l y : va_W} (h : ws = x ++ (l ++ y)) : List.Perm ws (l ++ (x ++ y)) := by rw [h]; exact List.perm_append_comm_assoc x l y
theorem perm_back {sp ws x l y : va_W} (h : ws = x ++ (l ++ y)) : List.Perm ((sp ++ l) ++ (x ++ y)) (sp ++ ws) := by rw [h, List.append_assoc]; exact (List.perm_append_comm_assoc l x y).append_left sp
def spanQ (a : Nat) (q : Q4) : va_W := spanW a q.1 q.2.1 q.2.2.1 q.2.2.2
theorem putL_span_log_span {a : Nat} {A : Nat → Nat} {cI : ClassId} {lt lb mt mb lt' lb' mt' mb' : Int32} {r : Tb} : putL (spanW a lt lb mt mb ++ logW A cI r) [0] (spanW a lt' lb' mt' mb') = spanW a lt' lb' mt' mb' ++ logW A cI r := rfl
theorem raiseQ_if (lt lb mt mb x y : Int32) : raiseQ (lt, lb, mt, mb) x y = (if belowV lt lb x y = 0 then lt else x, if belowV lt lb x y = 0 then lb else y, mt, mb) := by
  by_cases h : belowV lt lb x y = 0
  · rw [raiseQ_p h, if_pos h, if_pos h]
  · rw [raiseQ_n h, if_neg h, if_neg h]
theorem lowerQ_if (lt lb mt mb x y : Int32) : lowerQ (lt, lb, mt, mb) x y = (lt, lb, if belowV x y mt mb = 0 then mt else x, if belowV x y mt mb = 0 then mb else y) := by
  by_cases h : belowV x y mt mb = 0
  · rw [lowerQ_p h, if_pos h, if_pos h]
  · rw [lowerQ_n h, if_neg h, if_neg h]
def tauC (r : Tb) (M i : Nat) : Int32 := r 5 (slotN (r 3 3) (nI (M - 1 - i)))
def cutC (q : Q4) (p : Int32) : Int32 := if belowV q.1 q.2.1 q.2.2.1 q.2.2.2 = 0 then -1 else partV q.1 q.2.1 q.2.2.1 q.2.2.2 p
def perV (r : Tb) (t : Int32) (M : Nat) (p : Int32) : Int32 := cutC (foldQ (tauC r M) t M M (0, 1, 1, 0)) p
def periodV (r : Tb) (t mm p : Int32) : Int32 := if p < 0 then -1 else if p < 4 then (if mm < 2 then -1 else if 30 < mm then -1 else if mm ≤ rowV r then perV r t mm.toNatClampNeg p else -1) else -1

def rm_X5_spanOf : Room := { frames := 2, cells := 1, slots := 4, locals := 45 }
set_option maxHeartbeats 1000000 in
set_option maxRecDepth 100000 in
theorem c_X5_spanOf (l : Launch) (D : va_G) (cI cB : ClassId) (A : Nat → Nat) (r : Tb) (M : Nat) (now : Int32) (hM2 : 2 ≤ M) (hM : M ≤ 30) : CR l D cI cB yX5_spanOf wsX5_spanOf rm_X5_spanOf [.ref (A 3), .int (nI M), .int now] (logW A cI r) 1 4 (fun a w1 => w1 = spanQ a (foldQ (tauC r M) now M M (0, 1, 1, 0)) ++ logW A cI r) := by
  refine CR.of (cc := cX5_spanOf) (maxL := 9)  (by decide +kernel) rfl (Nat.le_of_ble_eq_true rfl) ?_
  intro p e s m args below meth c ls A0 Q hT hH hA hl hE
  obtain ⟨hx, hb, hr, hlocks, hnm, hml, hown, hts, hK, hN⟩ := hT
  have hl : lv_has ls 9 [(0, .ref (A 3)), (1, .int (nI M)), (2, .int now)] := hl
  have hi3 : ∀ w ∈ wsX30, w ∈ wsX5_spanOf := by decide +kernel
  refine x_newc (ci := 3) (fs := [.int 0, .int 0, .int 0, .int 0]) (C := RX3) (T := TX3) (N := 4) hx hb hts hi3 tyX3_ok hown (hts (.classLink RX5 128 RX3) (by decide +kernel)) (hts (.instantiable RX3 4) (by decide +kernel)) (hts (.initialized RX3) (by decide +kernel)) hK hH hA rfl (fun j hj => by rcases (show j = 0 ∨ j = 1 ∨ j = 2 ∨ j = 3 by omega) with rfl | rfl | rfl | rfl <;> rfl) (Nat.le_of_ble_eq_true rfl) (Nat.le_of_ble_eq_true rfl) dX5_spanOf_0 (fun q_1 H hH => ?_)
  refine W.widen (k := 1) (n := 4) (Nat.le_of_ble_eq_true rfl) (Nat.le_of_ble_eq_true rfl) ?_
  refine lv_dup hx hb dX5_spanOf_3 rfl ?_
  have hH := hH.perm (List.perm_append_comm (l₁ := (logW A cI r)) (l₂ := [(q_1, .inr (3, [.int 0, .int 0, .int 0, .int 0]))]))
  refine kCN (wc := [(q_1, .inr (3, [.int 0, .int 0, .int 0, .int 0]))]) (wr := (logW A cI r)) (va_runIN (As := []) (rest := [.ref q_1]) ⟨hx, hb, hml, hown, hts⟩ (c_X3_init l D cI cB q_1 _) ⟨va_cnB 0 hts gX5_spanOf_X3_init_n167 rfl rfl rfl (nwm5_167 (args := args) hN) (hts (.initialized RX3) (by decide +kernel)) (by decide +kernel) ⟨Nat.le_of_ble_eq_true rfl, Nat.le_of_ble_eq_true rfl⟩, rfl, hts (.instanceMethod yX3_init) (by decide +kernel)⟩ (preS_pre hH.1.left hH.2.1.left hK hN) rfl rfl hl.1 rfl (lv_room (Nat.le_of_ble_eq_true rfl)) dX5_spanOf_4 ⟨Nat.le_of_ble_eq_true rfl, Nat.le_of_ble_eq_true rfl⟩) hH hA (fun w1 H2 locs2 hp hG => ?_)
  subst hp
  have hH : Hd D A0 s (spanW q_1 0 1 1 0 ++ logW A cI r) H2 locs2 := hG
  refine W.widen (k := 1) (n := 4) (Nat.le_of_ble_eq_true rfl) (Nat.le_of_ble_eq_true rfl) ?_
  refine lv_astore_n (lv' := [(3, .ref q_1), (0, .ref (A 3)), (1, .int (nI M)), (2, .int now)]) hx hb dX5_spanOf_7 rfl hl (by decide) rfl (fun ls hl => ?_)
  refine lv_iload_n hx hb dX5_spanOf_8 rfl (lv_at hl 2 rfl) ?_
  refine lv_iconst (v := 1) hx hb dX5_spanOf_9 (by decide) ?_
  refine lv_isub hx hb dX5_spanOf_10 ?_
  refine x_top (y := nI (M - 1)) (pk_sub (a := M) (b := 1) (by omega)) ?_
  refine lv_istore (lv' := [(4, .int (nI (M - 1))), (3, .ref q_1), (0, .ref (A 3)), (1, .int (nI M)), (2, .int now)]) hx hb dX5_spanOf_11 hl (by decide) rfl (fun ls hl => ?_)
  refine lv_iconst (v := 0) hx hb dX5_spanOf_13 (by decide) ?_
  refine lv_istore (lv' := [(5, .int 0), (4, .int (nI (M - 1))), (3, .ref q_1), (0, .ref (A 3)), (1, .int (nI M)), (2, .int now)]) hx hb dX5_spanOf_14 hl (by decide) rfl (fun ls hl => ?_)
  have lp : ∀ (fuel : Nat) (i : Nat) (lt : Int32) (lb : Int32) (mt : Int32) (mb : Int32), (i ≤ M) → (M < i + fuel) → (foldQ (tauC r M) now M i (0, 1, 1, 0) = (lt, lb, mt, mb)) → ∀ (H : Heap) (locs : List Loc) (ls : Array Slot), Hd D A0 s (spanW q_1 lt lb mt mb ++ logW A cI r) H locs → lv_has ls 9 [(0, .ref (A 3)), (1, .int (nI M)), (2, .int now), (3, .ref q_1), (4, .int (nI (M - 1))), (5, .int (nI i))] → W p l e rm_X5_spanOf s m args below meth c H locs 1 4 Q (F0 m 16 ls []) := by
    intro fuel
    induction fuel with
    | zero => intro i lt lb mt mb hi hm hq H locs ls hH hl; exact absurd hm (by omega)
    | succ fuel ih =>
      intro i lt lb mt mb hi hm hq H locs ls hH hl
      refine lv_iload hx hb dX5_spanOf_16 (lv_at hl 5 rfl) ?_
      refine lv_iload_n hx hb dX5_spanOf_18 rfl (lv_at hl 1 rfl) ?_
      refine lv_icmp_ge (tgt := 109) hx hb dX5_spanOf_19 (by decide) (fun c_19 => ?_) (fun c_19 => ?_)
      · skip
        refine lv_aload_n hx hb dX5_spanOf_109 rfl (lv_at hl 3 rfl) ?_
        exact hE _ _ _ _ _ _ hH (congrArg (fun z : Q4 => spanQ q_1 z ++ logW A cI r) (show (lt, lb, mt, mb) = foldQ (tauC r M) now M M (0, 1, 1, 0) from by rw [← hq, show i = M by have h7 := (nI_leI (by omega) (by omega)).mp c_19; omega])) dX5_spanOf_110
      · skip
        have hlt : i < M := lt_of_nI (n := M) (by omega) c_19
        refine lv_aload_n hx hb dX5_spanOf_22 rfl (lv_at hl 0 rfl) ?_
        refine lv_iload hx hb dX5_spanOf_23 (lv_at hl 4 rfl) ?_
        refine lv_iload hx hb dX5_spanOf_25 (lv_at hl 5 rfl) ?_
        refine lv_isub hx hb dX5_spanOf_27 ?_
        refine x_top (y := nI (M - 1 - i)) (pk_sub (by omega)) ?_
        refine kSI (va_runVN (As := [.int (nI (M - 1 - i))]) (rest := []) ⟨hx, hb, hml, hown, hts⟩ (c_X1_tickAt l D cI cB A r (nI (M - 1 - i))  _) ⟨va_cnB 1 hts gX5_spanOf_X1_tickAt_n114 rfl rfl rfl (nwm5_114 (args := args) hN) (hts (.initialized RX1) (by decide +kernel)) (by decide +kernel) ⟨Nat.le_of_ble_eq_true rfl, Nat.le_of_ble_eq_true rfl⟩, hts (.instanceMethod yX1_tickAt) (by decide +kernel), hts (.selects RX1 yX1_tickAt yX1_tickAt) (by decide +kernel)⟩ (preV_cut hH.1 hH.2.1 hK hN (ci := 1) rfl 1 rfl [1, 2, 3, 4] (by decide) rfl) rfl rfl hl.1 rfl (lv_room (Nat.le_of_ble_eq_true rfl)) dX5_spanOf_28 ⟨Nat.le_of_ble_eq_true rfl, Nat.le_of_ble_eq_true rfl⟩) ?_
        refine x_top (y := (tauC r M) i) (rfl) ?_
        refine lv_istore (lv' := [(6, .int ((tauC r M) i)), (0, .ref (A 3)), (1, .int (nI M)), (2, .int now), (3, .ref q_1), (4, .int (nI (M - 1))), (5, .int (nI i))]) hx hb dX5_spanOf_31 hl (by decide) rfl (fun ls hl => ?_)
        refine lv_aload_n hx hb dX5_spanOf_33 rfl (lv_at hl 4 rfl) ?_
        refine lv_iload_n hx hb dX5_spanOf_34 rfl (lv_at hl 3 rfl) ?_
        refine lv_iload hx hb dX5_spanOf_35 (lv_at hl 0 rfl) ?_
        refine lv_isub hx hb dX5_spanOf_37 ?_
        refine lv_iload_n hx hb dX5_spanOf_38 rfl (lv_at hl 2 rfl) ?_
        refine lv_iload hx hb dX5_spanOf_39 (lv_at hl 6 rfl) ?_
        refine lv_isub hx hb dX5_spanOf_41 ?_
        refine x_top (y := nI (M - i)) (pk_sub (by omega)) ?_
        obtain ⟨lt_3, elt_3⟩ : ∃ z, z = if belowV lt lb (now - ((tauC r M) i)) (nI (M - i)) = 0 then lt else (now - ((tauC r M) i)) := ⟨_, rfl⟩
        obtain ⟨lb_4, elb_4⟩ : ∃ z, z = if belowV lt lb (now - ((tauC r M) i)) (nI (M - i)) = 0 then lb else (nI (M - i)) := ⟨_, rfl⟩
        refine kCV (ws' := (spanW q_1 lt_3 lb_4 mt mb ++ logW A cI r)) (va_runVN (As := [.int (now - ((tauC r M) i)), .int (nI (M - i))]) (rest := []) ⟨hx, hb, hml, hown, hts⟩ (c_X3_raiseLeast l D cI cB q_1 lt lb mt mb (now - ((tauC r M) i)) (nI (M - i))  _) ⟨va_cnB 2 hts gX5_spanOf_X3_raiseLeast_n168 rfl rfl rfl (nwm5_168 (args := args) hN) (hts (.initialized RX3) (by decide +kernel)) (by decide +kernel) ⟨Nat.le_of_ble_eq_true rfl, Nat.le_of_ble_eq_true rfl⟩, hts (.instanceMethod yX3_raiseLeast) (by decide +kernel), hts (.selects RX3 yX3_raiseLeast yX3_raiseLeast) (by decide +kernel)⟩ (preV_cut hH.1 hH.2.1 hK hN (ci := 3) rfl 0 rfl [0] (by decide) rfl) rfl rfl hl.1 rfl (lv_room (Nat.le_of_ble_eq_true rfl)) dX5_spanOf_42 ⟨Nat.le_of_ble_eq_true rfl, Nat.le_of_ble_eq_true rfl⟩) hH hA [0] rfl adr_span (by rw [elt_3, elb_4]; exact putL_span_log_span) (fun H locs hH => ?_)
        refine lv_iload hx hb dX5_spanOf_45 (lv_at hl 6 rfl) ?_
        refine lv_iconst (v := 1) hx hb dX5_spanOf_47 (by decide) ?_
        refine lv_iadd hx hb dX5_spanOf_48 ?_
        refine x_top (y := nI (i + 1)) (nI_1 i) ?_
        refine lv_istore (lv' := [(7, .int (nI (i + 1))), (6, .int ((tauC r M) i)), (0, .ref (A 3)), (1, .int (nI M)), (2, .int now), (3, .ref q_1), (4, .int (nI (M - 1))), (5, .int (nI i))]) hx hb dX5_spanOf_49 hl (by decide) rfl (fun ls hl => ?_)
        have hra : raiseQ (lt, lb, mt, mb) (now - (tauC r M) i) (nI (M - i)) = (lt_3, lb_4, mt, mb) := by rw [raiseQ_if, elt_3, elb_4]
        have lq : ∀ (fu2 : Nat) (j : Nat) (lt2 : Int32) (lb2 : Int32) (mt2 : Int32) (mb2 : Int32), (i + 1 ≤ j) → (j ≤ M) → (M < j + fu2) → (innerQ (tauC r M) i (j - (i + 1)) (lt_3, lb_4, mt, mb) = (lt2, lb2, mt2, mb2)) → ∀ (H : Heap) (locs : List Loc) (ls : Array Slot), Hd D A0 s (spanW q_1 lt2 lb2 mt2 mb2 ++ logW A cI r) H locs → lv_has ls 9 [(0, .ref (A 3)), (1, .int (nI M)), (2, .int now), (3, .ref q_1), (4, .int (nI (M - 1))), (5, .int (nI i)), (6, .int ((tauC r M) i)), (7, .int (nI j))] → W p l e rm_X5_spanOf s m args below meth c H locs 1 4 Q (F0 m 51 ls []) := by
          intro fu2
          induction fu2 with
          | zero => intro j lt2 lb2 mt2 mb2 hj1 hj hmj hq2 H locs ls hH hl; exact absurd hmj (by omega)
          | succ fu2 ih2 =>
            intro j lt2 lb2 mt2 mb2 hj1 hj hmj hq2 H locs ls hH hl
            refine lv_iload hx hb dX5_spanOf_51 (lv_at hl 7 rfl) ?_
            refine lv_iload_n hx hb dX5_spanOf_53 rfl (lv_at hl 1 rfl) ?_
            refine lv_icmp_ge (tgt := 103) hx hb dX5_spanOf_54 (by decide) (fun c_54 => ?_) (fun c_54 => ?_)
            · skip
              refine lv_iinc (v := nI (i + 1)) (lv' := [(5, .int (nI (i + 1))), (0, .ref (A 3)), (1, .int (nI M)), (2, .int now), (3, .ref q_1), (4, .int (nI (M - 1))), (6, .int ((tauC r M) i)), (7, .int (nI j))]) hx hb dX5_spanOf_103 hl (k := 5) rfl (nI_1 i) (by decide) rfl (fun ls hl => ?_)
              refine lv_goto (tgt := 16) hx hb dX5_spanOf_106 (by decide) ?_
              exact ih (i + 1) lt2 lb2 mt2 mb2 (by omega) (by omega) (by rw [show foldQ (tauC r M) now M (i + 1) (0, 1, 1, 0) = outQ (tauC r M) now M i (foldQ (tauC r M) now M i (0, 1, 1, 0)) from rfl, hq, ← hq2, show j = M by have h7 := (nI_leI (by omega) (by omega)).mp c_54; omega]; unfold outQ; rw [hra]) H locs ls (hH) (lv_sub hl [1, 2, 3, 4, 5, 0] rfl)
            · skip
              have hlt2 : j < M := lt_of_nI (n := M) (by omega) c_54
              refine lv_aload_n hx hb dX5_spanOf_57 rfl (lv_at hl 0 rfl) ?_
              refine lv_iload hx hb dX5_spanOf_58 (lv_at hl 4 rfl) ?_
              refine lv_iload hx hb dX5_spanOf_60 (lv_at hl 7 rfl) ?_
              refine lv_isub hx hb dX5_spanOf_62 ?_
              refine x_top (y := nI (M - 1 - j)) (pk_sub (by omega)) ?_
              refine kSI (va_runVN (As := [.int (nI (M - 1 - j))]) (rest := []) ⟨hx, hb, hml, hown, hts⟩ (c_X1_tickAt l D cI cB A r (nI (M - 1 - j))  _) ⟨va_cnB 1 hts gX5_spanOf_X1_tickAt_n114 rfl rfl rfl (nwm5_114 (args := args) hN) (hts (.initialized RX1) (by decide +kernel)) (by decide +kernel) ⟨Nat.le_of_ble_eq_true rfl, Nat.le_of_ble_eq_true rfl⟩, hts (.instanceMethod yX1_tickAt) (by decide +kernel), hts (.selects RX1 yX1_tickAt yX1_tickAt) (by decide +kernel)⟩ (preV_cut hH.1 hH.2.1 hK hN (ci := 1) rfl 1 rfl [1, 2, 3, 4] (by decide) rfl) rfl rfl hl.1 rfl (lv_room (Nat.le_of_ble_eq_true rfl)) dX5_spanOf_63 ⟨Nat.le_of_ble_eq_true rfl, Nat.le_of_ble_eq_true rfl⟩) ?_
              refine x_top (y := (tauC r M) j) (rfl) ?_
              refine lv_iload hx hb dX5_spanOf_66 (lv_at hl 6 rfl) ?_
              refine lv_isub hx hb dX5_spanOf_68 ?_
              refine lv_istore (lv' := [(8, .int (((tauC r M) j) - ((tauC r M) i))), (0, .ref (A 3)), (1, .int (nI M)), (2, .int now), (3, .ref q_1), (4, .int (nI (M - 1))), (5, .int (nI i)), (6, .int ((tauC r M) i)), (7, .int (nI j))]) hx hb dX5_spanOf_69 hl (by decide) rfl (fun ls hl => ?_)
              refine lv_aload_n hx hb dX5_spanOf_71 rfl (lv_at hl 4 rfl) ?_
              refine lv_iload hx hb dX5_spanOf_72 (lv_at hl 0 rfl) ?_
              refine lv_iconst (v := 1) hx hb dX5_spanOf_74 (by decide) ?_
              refine lv_isub hx hb dX5_spanOf_75 ?_
              refine lv_iload hx hb dX5_spanOf_76 (lv_at hl 8 rfl) ?_
              refine lv_iload hx hb dX5_spanOf_78 (lv_at hl 6 rfl) ?_
              refine lv_isub hx hb dX5_spanOf_80 ?_
              refine x_top (y := nI (j - i)) (pk_sub (by omega)) ?_
              obtain ⟨lt_5, elt_5⟩ : ∃ z, z = if belowV lt2 lb2 ((((tauC r M) j) - ((tauC r M) i)) - 1) (nI (j - i)) = 0 then lt2 else ((((tauC r M) j) - ((tauC r M) i)) - 1) := ⟨_, rfl⟩
              obtain ⟨lb_6, elb_6⟩ : ∃ z, z = if belowV lt2 lb2 ((((tauC r M) j) - ((tauC r M) i)) - 1) (nI (j - i)) = 0 then lb2 else (nI (j - i)) := ⟨_, rfl⟩
              refine kCV (ws' := (spanW q_1 lt_5 lb_6 mt2 mb2 ++ logW A cI r)) (va_runVN (As := [.int ((((tauC r M) j) - ((tauC r M) i)) - 1), .int (nI (j - i))]) (rest := []) ⟨hx, hb, hml, hown, hts⟩ (c_X3_raiseLeast l D cI cB q_1 lt2 lb2 mt2 mb2 ((((tauC r M) j) - ((tauC r M) i)) - 1) (nI (j - i))  _) ⟨va_cnB 2 hts gX5_spanOf_X3_raiseLeast_n168 rfl rfl rfl (nwm5_168 (args := args) hN) (hts (.initialized RX3) (by decide +kernel)) (by decide +kernel) ⟨Nat.le_of_ble_eq_true rfl, Nat.le_of_ble_eq_true rfl⟩, hts (.instanceMethod yX3_raiseLeast) (by decide +kernel), hts (.selects RX3 yX3_raiseLeast yX3_raiseLeast) (by decide +kernel)⟩ (preV_cut hH.1 hH.2.1 hK hN (ci := 3) rfl 0 rfl [0] (by decide) rfl) rfl rfl hl.1 rfl (lv_room (Nat.le_of_ble_eq_true rfl)) dX5_spanOf_81 ⟨Nat.le_of_ble_eq_true rfl, Nat.le_of_ble_eq_true rfl⟩) hH hA [0] rfl adr_span (by rw [elt_5, elb_6]; exact putL_span_log_span) (fun H locs hH => ?_)
              refine lv_aload_n hx hb dX5_spanOf_84 rfl (lv_at hl 4 rfl) ?_
              refine lv_iload hx hb dX5_spanOf_85 (lv_at hl 0 rfl) ?_
              refine lv_iconst (v := 1) hx hb dX5_spanOf_87 (by decide) ?_
              refine lv_iadd hx hb dX5_spanOf_88 ?_
              refine lv_iload hx hb dX5_spanOf_89 (lv_at hl 8 rfl) ?_
              refine lv_iload hx hb dX5_spanOf_91 (lv_at hl 6 rfl) ?_
              refine lv_isub hx hb dX5_spanOf_93 ?_
              refine x_top (y := nI (j - i)) (pk_sub (by omega)) ?_
              obtain ⟨mt_7, emt_7⟩ : ∃ z, z = if belowV ((((tauC r M) j) - ((tauC r M) i)) + 1) (nI (j - i)) mt2 mb2 = 0 then mt2 else ((((tauC r M) j) - ((tauC r M) i)) + 1) := ⟨_, rfl⟩
              obtain ⟨mb_8, emb_8⟩ : ∃ z, z = if belowV ((((tauC r M) j) - ((tauC r M) i)) + 1) (nI (j - i)) mt2 mb2 = 0 then mb2 else (nI (j - i)) := ⟨_, rfl⟩
              refine kCV (ws' := (spanW q_1 lt_5 lb_6 mt_7 mb_8 ++ logW A cI r)) (va_runVN (As := [.int ((((tauC r M) j) - ((tauC r M) i)) + 1), .int (nI (j - i))]) (rest := []) ⟨hx, hb, hml, hown, hts⟩ (c_X3_lowerMost l D cI cB q_1 lt_5 lb_6 mt2 mb2 ((((tauC r M) j) - ((tauC r M) i)) + 1) (nI (j - i))  _) ⟨va_cnB 2 hts gX5_spanOf_X3_lowerMost_n171 rfl rfl rfl (nwm5_171 (args := args) hN) (hts (.initialized RX3) (by decide +kernel)) (by decide +kernel) ⟨Nat.le_of_ble_eq_true rfl, Nat.le_of_ble_eq_true rfl⟩, hts (.instanceMethod yX3_lowerMost) (by decide +kernel), hts (.selects RX3 yX3_lowerMost yX3_lowerMost) (by decide +kernel)⟩ (preV_cut hH.1 hH.2.1 hK hN (ci := 3) rfl 0 rfl [0] (by decide) rfl) rfl rfl hl.1 rfl (lv_room (Nat.le_of_ble_eq_true rfl)) dX5_spanOf_94 ⟨Nat.le_of_ble_eq_true rfl, Nat.le_of_ble_eq_true rfl⟩) hH hA [0] rfl adr_span (by rw [emt_7, emb_8]; exact putL_span_log_span) (fun H locs hH => ?_)
              refine lv_iinc (v := nI (j + 1)) (lv' := [(7, .int (nI (j + 1))), (8, .int (((tauC r M) j) - ((tauC r M) i))), (0, .ref (A 3)), (1, .int (nI M)), (2, .int now), (3, .ref q_1), (4, .int (nI (M - 1))), (5, .int (nI i)), (6, .int ((tauC r M) i))]) hx hb dX5_spanOf_97 hl (k := 8) rfl (nI_1 j) (by decide) rfl (fun ls hl => ?_)
              refine lv_goto (tgt := 51) hx hb dX5_spanOf_100 (by decide) ?_
              exact ih2 (j + 1) lt_5 lb_6 mt_7 mb_8 (by omega) (by omega) (by omega) (by rw [innerQ_s _ _ _ _ hj1, hq2]; unfold inQ; rw [raiseQ_if, ← elt_5, ← elb_6, lowerQ_if, ← emt_7, ← emb_8]) H locs ls (hH) (lv_sub hl [2, 3, 4, 5, 6, 7, 8, 0] rfl)
        exact lq (M + 1) (i + 1) lt_3 lb_4 mt mb (Nat.le_refl _) (by omega) (by omega) (by rw [Nat.sub_self]; rfl) _ _ ls (hH) (lv_sub hl [2, 3, 4, 5, 6, 7, 1, 0] rfl)
  exact lp (M + 1) 0 0 1 1 0 (Nat.zero_le _) (by omega) (rfl) _ _ ls (hH) (lv_sub hl [3, 4, 5, 2, 1, 0] rfl)

def rm_X5_period : Room := { frames := 3, cells := 1, slots := 4, locals := 73 }
set_option maxHeartbeats 1000000 in
set_option maxRecDepth 100000 in
theorem c_X5_period (l : Launch) (D : va_G) (cI cB : ClassId) (P : Nat → Nat) (b : Nat) (A1 : Nat → Nat) (A2 : Nat → Nat) (tw : Int32) (im : Nat → Option Nat) (tp : Nat → Int32) (t : Int32) (ap : Int32) (r1 : Tb) (r2 : Tb) (rd mm pt : Int32) : CJ l D cI cB yX5_period wsX5_period rm_X5_period [.ref (P 0), .int rd, .int mm, .int pt] (pwW P b A1 A2 cI cB tw im tp t ap r1 r2) 1 4 (fun x w1 => x = rdV rd (periodV r1 t mm pt) (periodV r2 t mm pt) (-1) ∧ w1 = pwW P b A1 A2 cI cB tw im tp t ap r1 r2) := by
  refine CJ.of (cc := cX5_period) (maxL := 6) (ty := .int) (by decide +kernel) rfl (Nat.le_of_ble_eq_true rfl) ?_
  intro p e s m args below meth c ls A0 Q hT hH hA hl hE
  obtain ⟨hx, hb, hr, hlocks, hnm, hml, hown, hts, hK, hN⟩ := hT
  have hl : lv_has ls 6 [(0, .ref (P 0)), (1, .int rd), (2, .int mm), (3, .int pt)] := hl
  have hi0 : ∀ w ∈ wsX00, w ∈ wsX5_period := by decide +kernel
  have hi2 : ∀ w ∈ wsX20, w ∈ wsX5_period := by decide +kernel
  have hi5 : ∀ w ∈ wsX50, w ∈ wsX5_period := by decide +kernel
  by_cases c0 : rd = 0
  · subst c0
    refine lv_aload_n hx hb dX5_period_0 rfl (lv_at hl 0 rfl) ?_
    refine x_get (v := .ref b) (C := RX5) (T := TX5) (N := 4) hx hb hts hi5 hown hK hH.1 0 rfl rfl 0 (by decide) (hts (.fieldLink RX5 10 "PulseWheel" "bench" "LPulseWheel$Bench;") (by decide +kernel)) rfl rfl dX5_period_1 ?_
    refine lv_iload_n hx hb dX5_period_4 rfl (lv_at hl 1 rfl) ?_
    refine kSQ (va_runVN (As := [.int 0]) (rest := []) ⟨hx, hb, hml, hown, hts⟩ (c_X0_readerAt_0 l D cI cB b A1 A2 t ap r1 r2  _) ⟨va_cnB 1 hts gX5_period_X0_readerAt_n24 rfl rfl rfl (nwm5_24 (args := args) hN) (hts (.initialized RX0) (by decide +kernel)) (by decide +kernel) ⟨Nat.le_of_ble_eq_true rfl, Nat.le_of_ble_eq_true rfl⟩, hts (.instanceMethod yX0_readerAt) (by decide +kernel), hts (.selects RX0 yX0_readerAt yX0_readerAt) (by decide +kernel)⟩ (preV_cut hH.1 hH.2.1 hK hN (ci := 0) rfl 3 rfl [3, 4, 5, 6, 7, 8, 9, 10, 11, 12, 13, 14, 15, 16, 17, 18, 19, 20, 21] (by decide) rfl) rfl rfl hl.1 rfl (lv_room (Nat.le_of_ble_eq_true rfl)) dX5_period_5 ⟨Nat.le_of_ble_eq_true rfl, Nat.le_of_ble_eq_true rfl⟩) ?_
    show W _ _ _ _ _ _ _ _ _ _ _ _ _ _ _ (F0 m 8 ls (.ref (A1 0) :: _))
    refine lv_astore (lv' := [(4, .ref (A1 0)), (0, .ref (P 0)), (1, .int 0), (2, .int mm), (3, .int pt)]) hx hb dX5_period_8 hl (by decide) rfl (fun ls hl => ?_)
    refine lv_aload hx hb dX5_period_10 (lv_at hl 0 rfl) ?_
    refine lv_ifnull hx hb dX5_period_12 ?_
    refine lv_iload_n hx hb dX5_period_15 rfl (lv_at hl 4 rfl) ?_
    refine lv_if_lt (tgt := 24) hx hb dX5_period_16 (by decide) (fun c_16 => ?_) (fun c_16 => ?_)
    · skip
      refine lv_iconst (v := -1) hx hb dX5_period_24 (by decide) ?_
      refine W.widen (k := 1) (n := 4) (Nat.le_of_ble_eq_true rfl) (Nat.le_of_ble_eq_true rfl) ?_
      exact hE _ _ _ _ _ _ hH (⟨by rw [rdV_0]; unfold periodV; rw [if_pos c_16], rfl⟩) rfl dX5_period_25
    · skip
      refine lv_iload_n hx hb dX5_period_19 rfl (lv_at hl 4 rfl) ?_
      refine lv_iconst (v := 4) hx hb dX5_period_20 (by decide) ?_
      refine lv_icmp_lt (tgt := 26) hx hb dX5_period_21 (by decide) (fun c_21 => ?_) (fun c_21 => ?_)
      · skip
        refine lv_iload_n hx hb dX5_period_26 rfl (lv_at hl 3 rfl) ?_
        refine lv_iconst (v := 2) hx hb dX5_period_27 (by decide) ?_
        refine lv_icmp_lt (tgt := 49) hx hb dX5_period_28 (by decide) (fun c_28 => ?_) (fun c_28 => ?_)
        · skip
          refine lv_iconst (v := -1) hx hb dX5_period_49 (by decide) ?_
          refine W.widen (k := 1) (n := 4) (Nat.le_of_ble_eq_true rfl) (Nat.le_of_ble_eq_true rfl) ?_
          exact hE _ _ _ _ _ _ hH (⟨by rw [rdV_0]; unfold periodV; rw [if_neg c_16, if_pos c_21, if_pos c_28], rfl⟩) rfl dX5_period_50
        · skip
          refine lv_iload_n hx hb dX5_period_31 rfl (lv_at hl 3 rfl) ?_
          refine lv_bipush (v := 30) hx hb dX5_period_32 (by decide) ?_
          refine lv_icmp_gt (tgt := 49) hx hb dX5_period_34 (by decide) (fun c_34 => ?_) (fun c_34 => ?_)
          · skip
            refine lv_iconst (v := -1) hx hb dX5_period_49 (by decide) ?_
            refine W.widen (k := 1) (n := 4) (Nat.le_of_ble_eq_true rfl) (Nat.le_of_ble_eq_true rfl) ?_
            exact hE _ _ _ _ _ _ hH (⟨by rw [rdV_0]; unfold periodV; rw [if_neg c_16, if_pos c_21, if_neg c_28, if_pos c_34], rfl⟩) rfl dX5_period_50
          · skip
            refine lv_aload hx hb dX5_period_37 (lv_at hl 0 rfl) ?_
            refine x_getN (v := .ref (A1 3)) (C := RX2) (T := TX2) (N := 16) hx hb hts hi2 hown hK hH.1 4 rfl rfl 2 (by decide) (nwf5_83 (args := args) hN) rfl rfl dX5_period_39 ?_
            refine kSI (va_runVN (As := []) (rest := []) ⟨hx, hb, hml, hown, hts⟩ (c_X1_keptOfOneSort l D cI cB A1 r1  _) ⟨va_cnB 0 hts gX5_period_X1_keptOfOneSort_n120 rfl rfl rfl (nwm5_120 (args := args) hN) (hts (.initialized RX1) (by decide +kernel)) (by decide +kernel) ⟨Nat.le_of_ble_eq_true rfl, Nat.le_of_ble_eq_true rfl⟩, hts (.instanceMethod yX1_keptOfOneSort) (by decide +kernel), hts (.selects RX1 yX1_keptOfOneSort yX1_keptOfOneSort) (by decide +kernel)⟩ (preV_cut hH.1 hH.2.1 hK hN (ci := 1) rfl 7 rfl [7, 8, 9, 10] (by decide) rfl) rfl rfl hl.1 rfl (lv_room (Nat.le_of_ble_eq_true rfl)) dX5_period_42 ⟨Nat.le_of_ble_eq_true rfl, Nat.le_of_ble_eq_true rfl⟩) ?_
            refine x_top (y := rowV r1) (rfl) ?_
            refine lv_iload_n hx hb dX5_period_45 rfl (lv_at hl 3 rfl) ?_
            refine lv_icmp_ge (tgt := 51) hx hb dX5_period_46 (by decide) (fun c_46 => ?_) (fun c_46 => ?_)
            · skip
              obtain ⟨M, hM31, eM⟩ := nI_of (x := mm) (fun q => c_28 (Int32.lt_trans q (by decide)))
              subst eM
              have hM2 : 2 ≤ M := Nat.not_lt.mp (fun q => c_28 ((nI_ltI (b := 2) hM31 (by decide)).mpr q))
              have hM : M ≤ 30 := Nat.not_lt.mp (fun q => c_34 ((nI_ltI (a := 30) (by decide) hM31).mpr q))
              refine lv_aload hx hb dX5_period_51 (lv_at hl 0 rfl) ?_
              refine x_getN (v := .ref (A1 3)) (C := RX2) (T := TX2) (N := 16) hx hb hts hi2 hown hK hH.1 4 rfl rfl 2 (by decide) (nwf5_83 (args := args) hN) rfl rfl dX5_period_53 ?_
              refine lv_iload_n hx hb dX5_period_56 rfl (lv_at hl 3 rfl) ?_
              refine lv_aload_n hx hb dX5_period_57 rfl (lv_at hl 1 rfl) ?_
              refine x_get (v := .ref b) (C := RX5) (T := TX5) (N := 4) hx hb hts hi5 hown hK hH.1 0 rfl rfl 0 (by decide) (hts (.fieldLink RX5 10 "PulseWheel" "bench" "LPulseWheel$Bench;") (by decide +kernel)) rfl rfl dX5_period_58 ?_
              refine x_getN (v := .int t) (C := RX0) (T := TX0) (N := 4) hx hb hts hi0 hown hK hH.1 3 rfl rfl 2 (by decide) (nwf5_34 (args := args) hN) rfl rfl dX5_period_61 ?_
              have hG : Hd D A0 s (logW A1 cI r1 ++ ((pwW P b A1 A2 cI cB tw im tp t ap r1 r2).take 7 ++ (pwW P b A1 A2 cI cB tw im tp t ap r1 r2).drop 11)) _ _ := hH.perm (perm_cut (x := (pwW P b A1 A2 cI cB tw im tp t ap r1 r2).take 7) (y := (pwW P b A1 A2 cI cB tw im tp t ap r1 r2).drop 11) rfl)
              refine kCR (wc := logW A1 cI r1) (wr := (pwW P b A1 A2 cI cB tw im tp t ap r1 r2).take 7 ++ (pwW P b A1 A2 cI cB tw im tp t ap r1 r2).drop 11) (va_runS (As := [.ref (A1 3), .int (nI M), .int t]) (rest := []) ⟨hx, hb, hml, hown, hts⟩ (c_X5_spanOf l D cI cB A1 r1 M t hM2 hM _) (va_cwS 3 hts gX5_period_X5_spanOf rfl rfl rfl (by decide +kernel) ⟨Nat.le_of_ble_eq_true rfl, Nat.le_of_ble_eq_true rfl⟩) (preS_pre hG.1.left hG.2.1.left hK hN) rfl rfl hl.1 rfl (lv_room (Nat.le_of_ble_eq_true rfl)) dX5_period_64 ⟨Nat.le_of_ble_eq_true rfl, Nat.le_of_ble_eq_true rfl⟩) hG hA (fun sa w1 H2 locs2 hp hG => ?_)
              obtain ⟨fq, hfq⟩ : ∃ z, z = foldQ (tauC r1 M) t M M (0, 1, 1, 0) := ⟨_, rfl⟩
              rw [hp, ← hfq] at hG
              have hH : Hd D A0 s (spanW sa fq.1 fq.2.1 fq.2.2.1 fq.2.2.2 ++ pwW P b A1 A2 cI cB tw im tp t ap r1 r2) H2 locs2 := hG.perm (perm_back (x := (pwW P b A1 A2 cI cB tw im tp t ap r1 r2).take 7) (y := (pwW P b A1 A2 cI cB tw im tp t ap r1 r2).drop 11) rfl)
              refine W.widen (k := 1) (n := 4) (Nat.le_of_ble_eq_true rfl) (Nat.le_of_ble_eq_true rfl) ?_
              refine lv_astore (lv' := [(5, .ref sa), (4, .ref (A1 0)), (0, .ref (P 0)), (1, .int 0), (2, .int (nI M)), (3, .int pt)]) hx hb dX5_period_67 hl (by decide) rfl (fun ls hl => ?_)
              refine lv_aload hx hb dX5_period_69 (lv_at hl 0 rfl) ?_
              refine kSI (va_runVN (As := []) (rest := []) ⟨hx, hb, hml, hown, hts⟩ (c_X3_hasMotion l D cI cB sa fq.1 fq.2.1 fq.2.2.1 fq.2.2.2  _) ⟨va_cnB 0 hts gX5_period_X3_hasMotion_n127 rfl rfl rfl (nwm5_127 (args := args) hN) (hts (.initialized RX3) (by decide +kernel)) (by decide +kernel) ⟨Nat.le_of_ble_eq_true rfl, Nat.le_of_ble_eq_true rfl⟩, hts (.instanceMethod yX3_hasMotion) (by decide +kernel), hts (.selects RX3 yX3_hasMotion yX3_hasMotion) (by decide +kernel)⟩ (preV_cut hH.1 hH.2.1 hK hN (ci := 3) rfl 0 rfl [0] (by decide) rfl) rfl rfl hl.1 rfl (lv_room (Nat.le_of_ble_eq_true rfl)) dX5_period_71 ⟨Nat.le_of_ble_eq_true rfl, Nat.le_of_ble_eq_true rfl⟩) ?_
              refine lv_if_eq (tgt := 86) hx hb dX5_period_74 (by decide) (fun c_74 => ?_) (fun c_74 => ?_)
              · skip
                refine lv_iconst (v := -1) hx hb dX5_period_86 (by decide) ?_
                have hH := hH.tail
                exact hE _ _ _ _ _ _ hH (⟨by rw [rdV_0]; unfold periodV; rw [if_neg c_16, if_pos c_21, if_neg c_28, if_neg c_34, if_pos c_46, nI_clamp hM31]; unfold perV; rw [← hfq]; unfold cutC; rw [if_pos c_74], rfl⟩) rfl dX5_period_87
              · skip
                refine lv_aload hx hb dX5_period_77 (lv_at hl 0 rfl) ?_
                refine lv_iload_n hx hb dX5_period_79 rfl (lv_at hl 5 rfl) ?_
                refine kSI (va_runVN (As := [.int pt]) (rest := []) ⟨hx, hb, hml, hown, hts⟩ (c_X3_part l D cI cB sa fq.1 fq.2.1 fq.2.2.1 fq.2.2.2 pt  _) ⟨va_cnB 1 hts gX5_period_X3_part_n133 rfl rfl rfl (nwm5_133 (args := args) hN) (hts (.initialized RX3) (by decide +kernel)) (by decide +kernel) ⟨Nat.le_of_ble_eq_true rfl, Nat.le_of_ble_eq_true rfl⟩, hts (.instanceMethod yX3_part) (by decide +kernel), hts (.selects RX3 yX3_part yX3_part) (by decide +kernel)⟩ (preV_cut hH.1 hH.2.1 hK hN (ci := 3) rfl 0 rfl [0] (by decide) rfl) rfl rfl hl.1 rfl (lv_room (Nat.le_of_ble_eq_true rfl)) dX5_period_80 ⟨Nat.le_of_ble_eq_true rfl, Nat.le_of_ble_eq_true rfl⟩) ?_
                refine lv_goto (tgt := 87) hx hb dX5_period_83 (by decide) ?_
                have hH := hH.tail
                exact hE _ _ _ _ _ _ hH (⟨by rw [rdV_0]; unfold periodV; rw [if_neg c_16, if_pos c_21, if_neg c_28, if_neg c_34, if_pos c_46, nI_clamp hM31]; unfold perV; rw [← hfq]; unfold cutC; rw [if_neg c_74], rfl⟩) rfl dX5_period_87
            · skip
              refine lv_iconst (v := -1) hx hb dX5_period_49 (by decide) ?_
              refine W.widen (k := 1) (n := 4) (Nat.le_of_ble_eq_true rfl) (Nat.le_of_ble_eq_true rfl) ?_
              exact hE _ _ _ _ _ _ hH (⟨by rw [rdV_0]; unfold periodV; rw [if_neg c_16, if_pos c_21, if_neg c_28, if_neg c_34, if_neg c_46], rfl⟩) rfl dX5_period_50
      · skip
        refine lv_iconst (v := -1) hx hb dX5_period_24 (by decide) ?_
        refine W.widen (k := 1) (n := 4) (Nat.le_of_ble_eq_true rfl) (Nat.le_of_ble_eq_true rfl) ?_
        exact hE _ _ _ _ _ _ hH (⟨by rw [rdV_0]; unfold periodV; rw [if_neg c_16, if_neg c_21], rfl⟩) rfl dX5_period_25
  by_cases c1 : rd = 1
  · subst c1
    refine lv_aload_n hx hb dX5_period_0 rfl (lv_at hl 0 rfl) ?_
    refine x_get (v := .ref b) (C := RX5) (T := TX5) (N := 4) hx hb hts hi5 hown hK hH.1 0 rfl rfl 0 (by decide) (hts (.fieldLink RX5 10 "PulseWheel" "bench" "LPulseWheel$Bench;") (by decide +kernel)) rfl rfl dX5_period_1 ?_
    refine lv_iload_n hx hb dX5_period_4 rfl (lv_at hl 1 rfl) ?_
    refine kSQ (va_runVN (As := [.int 1]) (rest := []) ⟨hx, hb, hml, hown, hts⟩ (c_X0_readerAt_1 l D cI cB b A1 A2 t ap r1 r2  _) ⟨va_cnB 1 hts gX5_period_X0_readerAt_n24 rfl rfl rfl (nwm5_24 (args := args) hN) (hts (.initialized RX0) (by decide +kernel)) (by decide +kernel) ⟨Nat.le_of_ble_eq_true rfl, Nat.le_of_ble_eq_true rfl⟩, hts (.instanceMethod yX0_readerAt) (by decide +kernel), hts (.selects RX0 yX0_readerAt yX0_readerAt) (by decide +kernel)⟩ (preV_cut hH.1 hH.2.1 hK hN (ci := 0) rfl 3 rfl [3, 4, 5, 6, 7, 8, 9, 10, 11, 12, 13, 14, 15, 16, 17, 18, 19, 20, 21] (by decide) rfl) rfl rfl hl.1 rfl (lv_room (Nat.le_of_ble_eq_true rfl)) dX5_period_5 ⟨Nat.le_of_ble_eq_true rfl, Nat.le_of_ble_eq_true rfl⟩) ?_
    show W _ _ _ _ _ _ _ _ _ _ _ _ _ _ _ (F0 m 8 ls (.ref (A2 0) :: _))
    refine lv_astore (lv' := [(4, .ref (A2 0)), (0, .ref (P 0)), (1, .int 1), (2, .int mm), (3, .int pt)]) hx hb dX5_period_8 hl (by decide) rfl (fun ls hl => ?_)
    refine lv_aload hx hb dX5_period_10 (lv_at hl 0 rfl) ?_
    refine lv_ifnull hx hb dX5_period_12 ?_
    refine lv_iload_n hx hb dX5_period_15 rfl (lv_at hl 4 rfl) ?_
    refine lv_if_lt (tgt := 24) hx hb dX5_period_16 (by decide) (fun c_16 => ?_) (fun c_16 => ?_)
    · skip
      refine lv_iconst (v := -1) hx hb dX5_period_24 (by decide) ?_
      refine W.widen (k := 1) (n := 4) (Nat.le_of_ble_eq_true rfl) (Nat.le_of_ble_eq_true rfl) ?_
      exact hE _ _ _ _ _ _ hH (⟨by rw [rdV_1]; unfold periodV; rw [if_pos c_16], rfl⟩) rfl dX5_period_25
    · skip
      refine lv_iload_n hx hb dX5_period_19 rfl (lv_at hl 4 rfl) ?_
      refine lv_iconst (v := 4) hx hb dX5_period_20 (by decide) ?_
      refine lv_icmp_lt (tgt := 26) hx hb dX5_period_21 (by decide) (fun c_21 => ?_) (fun c_21 => ?_)
      · skip
        refine lv_iload_n hx hb dX5_period_26 rfl (lv_at hl 3 rfl) ?_
        refine lv_iconst (v := 2) hx hb dX5_period_27 (by decide) ?_
        refine lv_icmp_lt (tgt := 49) hx hb dX5_period_28 (by decide) (fun c_28 => ?_) (fun c_28 => ?_)
        · skip
          refine lv_iconst (v := -1) hx hb dX5_period_49 (by decide) ?_
          refine W.widen (k := 1) (n := 4) (Nat.le_of_ble_eq_true rfl) (Nat.le_of_ble_eq_true rfl) ?_
          exact hE _ _ _ _ _ _ hH (⟨by rw [rdV_1]; unfold periodV; rw [if_neg c_16, if_pos c_21, if_pos c_28], rfl⟩) rfl dX5_period_50
        · skip
          refine lv_iload_n hx hb dX5_period_31 rfl (lv_at hl 3 rfl) ?_
          refine lv_bipush (v := 30) hx hb dX5_period_32 (by decide) ?_
          refine lv_icmp_gt (tgt := 49) hx hb dX5_period_34 (by decide) (fun c_34 => ?_) (fun c_34 => ?_)
          · skip
            refine lv_iconst (v := -1) hx hb dX5_period_49 (by decide) ?_
            refine W.widen (k := 1) (n := 4) (Nat.le_of_ble_eq_true rfl) (Nat.le_of_ble_eq_true rfl) ?_
            exact hE _ _ _ _ _ _ hH (⟨by rw [rdV_1]; unfold periodV; rw [if_neg c_16, if_pos c_21, if_neg c_28, if_pos c_34], rfl⟩) rfl dX5_period_50
          · skip
            refine lv_aload hx hb dX5_period_37 (lv_at hl 0 rfl) ?_
            refine x_getN (v := .ref (A2 3)) (C := RX2) (T := TX2) (N := 16) hx hb hts hi2 hown hK hH.1 13 rfl rfl 2 (by decide) (nwf5_83 (args := args) hN) rfl rfl dX5_period_39 ?_
            refine kSI (va_runVN (As := []) (rest := []) ⟨hx, hb, hml, hown, hts⟩ (c_X1_keptOfOneSort l D cI cB A2 r2  _) ⟨va_cnB 0 hts gX5_period_X1_keptOfOneSort_n120 rfl rfl rfl (nwm5_120 (args := args) hN) (hts (.initialized RX1) (by decide +kernel)) (by decide +kernel) ⟨Nat.le_of_ble_eq_true rfl, Nat.le_of_ble_eq_true rfl⟩, hts (.instanceMethod yX1_keptOfOneSort) (by decide +kernel), hts (.selects RX1 yX1_keptOfOneSort yX1_keptOfOneSort) (by decide +kernel)⟩ (preV_cut hH.1 hH.2.1 hK hN (ci := 1) rfl 16 rfl [16, 17, 18, 19] (by decide) rfl) rfl rfl hl.1 rfl (lv_room (Nat.le_of_ble_eq_true rfl)) dX5_period_42 ⟨Nat.le_of_ble_eq_true rfl, Nat.le_of_ble_eq_true rfl⟩) ?_
            refine x_top (y := rowV r2) (rfl) ?_
            refine lv_iload_n hx hb dX5_period_45 rfl (lv_at hl 3 rfl) ?_
            refine lv_icmp_ge (tgt := 51) hx hb dX5_period_46 (by decide) (fun c_46 => ?_) (fun c_46 => ?_)
            · skip
              obtain ⟨M, hM31, eM⟩ := nI_of (x := mm) (fun q => c_28 (Int32.lt_trans q (by decide)))
              subst eM
              have hM2 : 2 ≤ M := Nat.not_lt.mp (fun q => c_28 ((nI_ltI (b := 2) hM31 (by decide)).mpr q))
              have hM : M ≤ 30 := Nat.not_lt.mp (fun q => c_34 ((nI_ltI (a := 30) (by decide) hM31).mpr q))
              refine lv_aload hx hb dX5_period_51 (lv_at hl 0 rfl) ?_
              refine x_getN (v := .ref (A2 3)) (C := RX2) (T := TX2) (N := 16) hx hb hts hi2 hown hK hH.1 13 rfl rfl 2 (by decide) (nwf5_83 (args := args) hN) rfl rfl dX5_period_53 ?_
              refine lv_iload_n hx hb dX5_period_56 rfl (lv_at hl 3 rfl) ?_
              refine lv_aload_n hx hb dX5_period_57 rfl (lv_at hl 1 rfl) ?_
              refine x_get (v := .ref b) (C := RX5) (T := TX5) (N := 4) hx hb hts hi5 hown hK hH.1 0 rfl rfl 0 (by decide) (hts (.fieldLink RX5 10 "PulseWheel" "bench" "LPulseWheel$Bench;") (by decide +kernel)) rfl rfl dX5_period_58 ?_
              refine x_getN (v := .int t) (C := RX0) (T := TX0) (N := 4) hx hb hts hi0 hown hK hH.1 3 rfl rfl 2 (by decide) (nwf5_34 (args := args) hN) rfl rfl dX5_period_61 ?_
              have hG : Hd D A0 s (logW A2 cI r2 ++ ((pwW P b A1 A2 cI cB tw im tp t ap r1 r2).take 16 ++ (pwW P b A1 A2 cI cB tw im tp t ap r1 r2).drop 20)) _ _ := hH.perm (perm_cut (x := (pwW P b A1 A2 cI cB tw im tp t ap r1 r2).take 16) (y := (pwW P b A1 A2 cI cB tw im tp t ap r1 r2).drop 20) rfl)
              refine kCR (wc := logW A2 cI r2) (wr := (pwW P b A1 A2 cI cB tw im tp t ap r1 r2).take 16 ++ (pwW P b A1 A2 cI cB tw im tp t ap r1 r2).drop 20) (va_runS (As := [.ref (A2 3), .int (nI M), .int t]) (rest := []) ⟨hx, hb, hml, hown, hts⟩ (c_X5_spanOf l D cI cB A2 r2 M t hM2 hM _) (va_cwS 3 hts gX5_period_X5_spanOf rfl rfl rfl (by decide +kernel) ⟨Nat.le_of_ble_eq_true rfl, Nat.le_of_ble_eq_true rfl⟩) (preS_pre hG.1.left hG.2.1.left hK hN) rfl rfl hl.1 rfl (lv_room (Nat.le_of_ble_eq_true rfl)) dX5_period_64 ⟨Nat.le_of_ble_eq_true rfl, Nat.le_of_ble_eq_true rfl⟩) hG hA (fun sa w1 H2 locs2 hp hG => ?_)
              obtain ⟨fq, hfq⟩ : ∃ z, z = foldQ (tauC r2 M) t M M (0, 1, 1, 0) := ⟨_, rfl⟩
              rw [hp, ← hfq] at hG
              have hH : Hd D A0 s (spanW sa fq.1 fq.2.1 fq.2.2.1 fq.2.2.2 ++ pwW P b A1 A2 cI cB tw im tp t ap r1 r2) H2 locs2 := hG.perm (perm_back (x := (pwW P b A1 A2 cI cB tw im tp t ap r1 r2).take 16) (y := (pwW P b A1 A2 cI cB tw im tp t ap r1 r2).drop 20) rfl)
              refine W.widen (k := 1) (n := 4) (Nat.le_of_ble_eq_true rfl) (Nat.le_of_ble_eq_true rfl) ?_
              refine lv_astore (lv' := [(5, .ref sa), (4, .ref (A2 0)), (0, .ref (P 0)), (1, .int 1), (2, .int (nI M)), (3, .int pt)]) hx hb dX5_period_67 hl (by decide) rfl (fun ls hl => ?_)
              refine lv_aload hx hb dX5_period_69 (lv_at hl 0 rfl) ?_
              refine kSI (va_runVN (As := []) (rest := []) ⟨hx, hb, hml, hown, hts⟩ (c_X3_hasMotion l D cI cB sa fq.1 fq.2.1 fq.2.2.1 fq.2.2.2  _) ⟨va_cnB 0 hts gX5_period_X3_hasMotion_n127 rfl rfl rfl (nwm5_127 (args := args) hN) (hts (.initialized RX3) (by decide +kernel)) (by decide +kernel) ⟨Nat.le_of_ble_eq_true rfl, Nat.le_of_ble_eq_true rfl⟩, hts (.instanceMethod yX3_hasMotion) (by decide +kernel), hts (.selects RX3 yX3_hasMotion yX3_hasMotion) (by decide +kernel)⟩ (preV_cut hH.1 hH.2.1 hK hN (ci := 3) rfl 0 rfl [0] (by decide) rfl) rfl rfl hl.1 rfl (lv_room (Nat.le_of_ble_eq_true rfl)) dX5_period_71 ⟨Nat.le_of_ble_eq_true rfl, Nat.le_of_ble_eq_true rfl⟩) ?_
              refine lv_if_eq (tgt := 86) hx hb dX5_period_74 (by decide) (fun c_74 => ?_) (fun c_74 => ?_)
              · skip
                refine lv_iconst (v := -1) hx hb dX5_period_86 (by decide) ?_
                have hH := hH.tail
                exact hE _ _ _ _ _ _ hH (⟨by rw [rdV_1]; unfold periodV; rw [if_neg c_16, if_pos c_21, if_neg c_28, if_neg c_34, if_pos c_46, nI_clamp hM31]; unfold perV; rw [← hfq]; unfold cutC; rw [if_pos c_74], rfl⟩) rfl dX5_period_87
              · skip
                refine lv_aload hx hb dX5_period_77 (lv_at hl 0 rfl) ?_
                refine lv_iload_n hx hb dX5_period_79 rfl (lv_at hl 5 rfl) ?_
                refine kSI (va_runVN (As := [.int pt]) (rest := []) ⟨hx, hb, hml, hown, hts⟩ (c_X3_part l D cI cB sa fq.1 fq.2.1 fq.2.2.1 fq.2.2.2 pt  _) ⟨va_cnB 1 hts gX5_period_X3_part_n133 rfl rfl rfl (nwm5_133 (args := args) hN) (hts (.initialized RX3) (by decide +kernel)) (by decide +kernel) ⟨Nat.le_of_ble_eq_true rfl, Nat.le_of_ble_eq_true rfl⟩, hts (.instanceMethod yX3_part) (by decide +kernel), hts (.selects RX3 yX3_part yX3_part) (by decide +kernel)⟩ (preV_cut hH.1 hH.2.1 hK hN (ci := 3) rfl 0 rfl [0] (by decide) rfl) rfl rfl hl.1 rfl (lv_room (Nat.le_of_ble_eq_true rfl)) dX5_period_80 ⟨Nat.le_of_ble_eq_true rfl, Nat.le_of_ble_eq_true rfl⟩) ?_
                refine lv_goto (tgt := 87) hx hb dX5_period_83 (by decide) ?_
                have hH := hH.tail
                exact hE _ _ _ _ _ _ hH (⟨by rw [rdV_1]; unfold periodV; rw [if_neg c_16, if_pos c_21, if_neg c_28, if_neg c_34, if_pos c_46, nI_clamp hM31]; unfold perV; rw [← hfq]; unfold cutC; rw [if_neg c_74], rfl⟩) rfl dX5_period_87
            · skip
              refine lv_iconst (v := -1) hx hb dX5_period_49 (by decide) ?_
              refine W.widen (k := 1) (n := 4) (Nat.le_of_ble_eq_true rfl) (Nat.le_of_ble_eq_true rfl) ?_
              exact hE _ _ _ _ _ _ hH (⟨by rw [rdV_1]; unfold periodV; rw [if_neg c_16, if_pos c_21, if_neg c_28, if_neg c_34, if_neg c_46], rfl⟩) rfl dX5_period_50
      · skip
        refine lv_iconst (v := -1) hx hb dX5_period_24 (by decide) ?_
        refine W.widen (k := 1) (n := 4) (Nat.le_of_ble_eq_true rfl) (Nat.le_of_ble_eq_true rfl) ?_
        exact hE _ _ _ _ _ _ hH (⟨by rw [rdV_1]; unfold periodV; rw [if_neg c_16, if_neg c_21], rfl⟩) rfl dX5_period_25
  refine lv_aload_n hx hb dX5_period_0 rfl (lv_at hl 0 rfl) ?_
  refine x_get (v := .ref b) (C := RX5) (T := TX5) (N := 4) hx hb hts hi5 hown hK hH.1 0 rfl rfl 0 (by decide) (hts (.fieldLink RX5 10 "PulseWheel" "bench" "LPulseWheel$Bench;") (by decide +kernel)) rfl rfl dX5_period_1 ?_
  refine lv_iload_n hx hb dX5_period_4 rfl (lv_at hl 1 rfl) ?_
  refine kSQ (va_runVN (As := [.int rd]) (rest := []) ⟨hx, hb, hml, hown, hts⟩ (c_X0_readerAt_n l D cI cB b A1 A2 t ap r1 r2 rd c0 c1 _) ⟨va_cnB 1 hts gX5_period_X0_readerAt_n24 rfl rfl rfl (nwm5_24 (args := args) hN) (hts (.initialized RX0) (by decide +kernel)) (by decide +kernel) ⟨Nat.le_of_ble_eq_true rfl, Nat.le_of_ble_eq_true rfl⟩, hts (.instanceMethod yX0_readerAt) (by decide +kernel), hts (.selects RX0 yX0_readerAt yX0_readerAt) (by decide +kernel)⟩ (preV_cut hH.1 hH.2.1 hK hN (ci := 0) rfl 3 rfl [3, 4, 5, 6, 7, 8, 9, 10, 11, 12, 13, 14, 15, 16, 17, 18, 19, 20, 21] (by decide) rfl) rfl rfl hl.1 rfl (lv_room (Nat.le_of_ble_eq_true rfl)) dX5_period_5 ⟨Nat.le_of_ble_eq_true rfl, Nat.le_of_ble_eq_true rfl⟩) ?_
  show W _ _ _ _ _ _ _ _ _ _ _ _ _ _ _ (F0 m 8 ls (.null :: _))
  refine lv_astoreN (lv' := [(4, .null), (0, .ref (P 0)), (1, .int rd), (2, .int mm), (3, .int pt)]) hx hb dX5_period_8 hl (by decide) rfl (fun ls hl => ?_)
  refine lv_aloadN hx hb dX5_period_10 (lv_at hl 0 rfl) ?_
  refine lv_ifnullN (tgt := 24) hx hb dX5_period_12 (by decide) ?_
  refine lv_iconst (v := -1) hx hb dX5_period_24 (by decide) ?_
  refine W.widen (k := 1) (n := 4) (Nat.le_of_ble_eq_true rfl) (Nat.le_of_ble_eq_true rfl) ?_
  exact hE _ _ _ _ _ _ hH (⟨by rw [rdV_n c0 c1], rfl⟩) rfl dX5_period_25

/-! ### the class's images -/
theorem x_ast {p : Program} {l : Launch} {e : Env} {R : Room} {s : State} {m : MethodId} {args : Array Value} {below : List Frame} {meth : Method} {c : Code} {H : Heap} {locs : List Loc} {cells slots : Nat} {Q : State → Prop} {pc : Nat} {ls : Array Slot} {rest : List Value} {cc : ByteArray} {D : va_G} {A : Nat → Prop} {ws ws' : va_W} {cI cB : ClassId} {a n v j : Nat} {f : Nat → Option Nat} {vs : List Value} {i : Int32} (hexec : p.tables.exec = Jvm.exec) (hb : c.code = cc) (hK : va_K D vwCl (tyL cI cB) s) (hH : Hd D A s ws H locs) (q0 qk : Nat) (ha : ws[q0]? = some (a, .inl (cB, n, .inr (.inr (.inr (.inr f)))))) (hv : ws[qk]? = some (v, .inr (0, vs))) (hin : vp_in i n) (hj : i.toNatClampNeg = j) (hdg : decode cc pc = .ok (.aastore, 1)) (hw : ws.set q0 (a, .inl (cB, n, .inr (.inr (.inr (.inr (va_up f j (some v))))))) = ws')
    (kk : ∀ H1 locs1, Hd D A s ws' H1 locs1 → W p l e R s m args below meth c H1 locs1 cells slots Q (F0 m (pc + 1) ls rest)) : W p l e R s m args below meth c H locs cells slots Q (F0 m pc ls (.ref v :: .int i :: .ref a :: rest)) := by
  subst hj
  exact va_astq (r := (RX0, TX0, 4)) hexec hb hK hH.1 hH.2.1 hH.2.2 q0 1 qk 0 ha rfl hv rfl hin hdg (fun H1 l1 h1 h2 h3 => kk H1 l1 (hw ▸ ⟨h1, h2, h3⟩))
theorem putL_pwimg_bench2a {P : Nat → Nat} {b bq : Nat} {A1 A2 B1 B2 : Nat → Nat} {cI cB : ClassId} {tw t ap u aq t' ap' : Int32} {im : Nat → Option Nat} {tp : Nat → Int32} {r1 r2 q1 q2 r1' r2' : Tb} : putL (pwW P b A1 A2 cI cB tw im tp t ap r1 r2 ++ benchW bq B1 B2 cI u aq q1 q2) [3, 4, 5, 6, 7, 8, 9, 10, 11, 12, 13, 14, 15, 16, 17, 18, 19, 20, 21, 22, 23, 24, 25, 26, 27, 28, 29, 30, 31, 32, 33, 34, 35, 36, 37, 38, 39, 40] (benchW b A1 A2 cI t' ap' r1' r2' ++ benchW bq B1 B2 cI u aq q1 q2) = pwW P b A1 A2 cI cB tw im tp t' ap' r1' r2' ++ benchW bq B1 B2 cI u aq q1 q2 := by
  refine (putL_app [3, 4, 5, 6, 7, 8, 9, 10, 11, 12, 13, 14, 15, 16, 17, 18, 19, 20, 21] (benchW b A1 A2 cI t' ap' r1' r2') rfl (pwW P b A1 A2 cI cB tw im tp t ap r1 r2 ++ benchW bq B1 B2 cI u aq q1 q2) [22, 23, 24, 25, 26, 27, 28, 29, 30, 31, 32, 33, 34, 35, 36, 37, 38, 39, 40] (benchW bq B1 B2 cI u aq q1 q2)).trans ?_
  have h1 : putL (pwW P b A1 A2 cI cB tw im tp t ap r1 r2 ++ benchW bq B1 B2 cI u aq q1 q2) [3, 4, 5, 6, 7, 8, 9, 10, 11, 12, 13, 14, 15, 16, 17, 18, 19, 20, 21] (benchW b A1 A2 cI t' ap' r1' r2') = pwW P b A1 A2 cI cB tw im tp t' ap' r1' r2' ++ benchW bq B1 B2 cI u aq q1 q2 := putL_mid (benchW b A1 A2 cI t ap r1 r2) [(P 0, .inr (5, [.ref b, .ref (P 1), .ref (P 2), .int tw])), (P 1, .inl (cB, 4, .inr (.inr (.inr (.inr im))))), (P 2, .inl (cI, 500, .inl tp))] (benchW bq B1 B2 cI u aq q1 q2) (benchW b A1 A2 cI t' ap' r1' r2') rfl
  rw [h1]
  have h := putL_mid (benchW bq B1 B2 cI u aq q1 q2) (pwW P b A1 A2 cI cB tw im tp t' ap' r1' r2') [] (benchW bq B1 B2 cI u aq q1 q2) rfl
  rw [List.append_nil] at h
  exact h
theorem putL_pwimg_bench2b {P : Nat → Nat} {b bq : Nat} {A1 A2 B1 B2 : Nat → Nat} {cI cB : ClassId} {tw t ap u aq u' aq' : Int32} {im : Nat → Option Nat} {tp : Nat → Int32} {r1 r2 q1 q2 q1' q2' : Tb} : putL (pwW P b A1 A2 cI cB tw im tp t ap r1 r2 ++ benchW bq B1 B2 cI u aq q1 q2) [22, 23, 24, 25, 26, 27, 28, 29, 30, 31, 32, 33, 34, 35, 36, 37, 38, 39, 40, 3, 4, 5, 6, 7, 8, 9, 10, 11, 12, 13, 14, 15, 16, 17, 18, 19, 20, 21] (benchW bq B1 B2 cI u' aq' q1' q2' ++ benchW b A1 A2 cI t ap r1 r2) = pwW P b A1 A2 cI cB tw im tp t ap r1 r2 ++ benchW bq B1 B2 cI u' aq' q1' q2' := by
  refine (putL_app [22, 23, 24, 25, 26, 27, 28, 29, 30, 31, 32, 33, 34, 35, 36, 37, 38, 39, 40] (benchW bq B1 B2 cI u' aq' q1' q2') rfl (pwW P b A1 A2 cI cB tw im tp t ap r1 r2 ++ benchW bq B1 B2 cI u aq q1 q2) [3, 4, 5, 6, 7, 8, 9, 10, 11, 12, 13, 14, 15, 16, 17, 18, 19, 20, 21] (benchW b A1 A2 cI t ap r1 r2)).trans ?_
  have h1 : putL (pwW P b A1 A2 cI cB tw im tp t ap r1 r2 ++ benchW bq B1 B2 cI u aq q1 q2) [22, 23, 24, 25, 26, 27, 28, 29, 30, 31, 32, 33, 34, 35, 36, 37, 38, 39, 40] (benchW bq B1 B2 cI u' aq' q1' q2') = pwW P b A1 A2 cI cB tw im tp t ap r1 r2 ++ benchW bq B1 B2 cI u' aq' q1' q2' := by
    have h := putL_mid (benchW bq B1 B2 cI u aq q1 q2) (pwW P b A1 A2 cI cB tw im tp t ap r1 r2) [] (benchW bq B1 B2 cI u' aq' q1' q2') rfl
    rw [List.append_nil, List.append_nil] at h
    exact h
  rw [h1]
  exact putL_mid (benchW b A1 A2 cI t ap r1 r2) [(P 0, .inr (5, [.ref b, .ref (P 1), .ref (P 2), .int tw])), (P 1, .inl (cB, 4, .inr (.inr (.inr (.inr im))))), (P 2, .inl (cI, 500, .inl tp))] (benchW bq B1 B2 cI u' aq' q1' q2') (benchW b A1 A2 cI t ap r1 r2) rfl

def rm_X5_keep_out : Room := { frames := 0, cells := 0, slots := 0, locals := 0 }
set_option maxHeartbeats 1000000 in
set_option maxRecDepth 100000 in
theorem c_X5_keep_out (l : Launch) (D : va_G) (cI cB : ClassId) (P : Nat → Nat) (b : Nat) (A1 : Nat → Nat) (A2 : Nat → Nat) (tw : Int32) (im : Nat → Option Nat) (tp : Nat → Int32) (t : Int32) (ap : Int32) (r1 : Tb) (r2 : Tb) (k : Int32) (ho : k < 0 ∨ 4 ≤ k) : SI l D cI cB yX5_keep wsX5_keep rm_X5_keep_out [.ref (P 0), .int k] (pwW P b A1 A2 cI cB tw im tp t ap r1 r2) 0 := by
  refine SI.of (cc := cX5_keep) (maxL := 2) (ty := .boolean) (by decide +kernel) rfl (Nat.le_of_ble_eq_true rfl) ?_
  intro p e s m args below meth c ls Q hT hP hD hl hE
  obtain ⟨hx, hb, hr, hlocks, hnm, hml, hown, hts, hK, hN⟩ := hT
  have hl : lv_has ls 2 [(0, .ref (P 0)), (1, .int k)] := hl
  have hi5 : ∀ w ∈ wsX50, w ∈ wsX5_keep := by decide +kernel
  refine lv_iload_n hx hb dX5_keep_0 rfl (lv_at hl 1 rfl) ?_
  refine lv_if_lt (tgt := 13) hx hb dX5_keep_1 (by decide) (fun c_1 => ?_) (fun c_1 => ?_)
  · skip
    refine lv_iconst (v := 0) hx hb dX5_keep_13 (by decide) ?_
    exact hE _ _ _ (by rfl) rfl dX5_keep_14
  · skip
    refine lv_iload_n hx hb dX5_keep_4 rfl (lv_at hl 1 rfl) ?_
    refine lv_aload_n hx hb dX5_keep_5 rfl (lv_at hl 0 rfl) ?_
    refine x_get (v := .ref (P 1)) (C := RX5) (T := TX5) (N := 4) hx hb hts hi5 hown hK hP 0 rfl rfl 1 (by decide) (hts (.fieldLink RX5 16 "PulseWheel" "images" "[LPulseWheel$Bench;") (by decide +kernel)) rfl rfl dX5_keep_6 ?_
    refine va_alen (v := 4) hx hb hK hP 1 1 rfl rfl rfl dX5_keep_9 ?_
    refine lv_icmp_lt (tgt := 15) hx hb dX5_keep_10 (by decide) (fun c_10 => ?_) (fun c_10 => ?_)
    · exact absurd c_10 (fun q => ho.elim c_1 (fun h => absurd q (Int32.not_lt.mpr h)))
    · skip
      refine lv_iconst (v := 0) hx hb dX5_keep_13 (by decide) ?_
      exact hE _ _ _ (by rfl) rfl dX5_keep_14

def rm_X5_back_out : Room := { frames := 0, cells := 0, slots := 0, locals := 0 }
set_option maxHeartbeats 1000000 in
set_option maxRecDepth 100000 in
theorem c_X5_back_out (l : Launch) (D : va_G) (cI cB : ClassId) (P : Nat → Nat) (b : Nat) (A1 : Nat → Nat) (A2 : Nat → Nat) (tw : Int32) (im : Nat → Option Nat) (tp : Nat → Int32) (t : Int32) (ap : Int32) (r1 : Tb) (r2 : Tb) (k : Int32) (ho : k < 0 ∨ 4 ≤ k) : SI l D cI cB yX5_back wsX5_back rm_X5_back_out [.ref (P 0), .int k] (pwW P b A1 A2 cI cB tw im tp t ap r1 r2) 0 := by
  refine SI.of (cc := cX5_back) (maxL := 2) (ty := .boolean) (by decide +kernel) rfl (Nat.le_of_ble_eq_true rfl) ?_
  intro p e s m args below meth c ls Q hT hP hD hl hE
  obtain ⟨hx, hb, hr, hlocks, hnm, hml, hown, hts, hK, hN⟩ := hT
  have hl : lv_has ls 2 [(0, .ref (P 0)), (1, .int k)] := hl
  have hi5 : ∀ w ∈ wsX50, w ∈ wsX5_back := by decide +kernel
  refine lv_iload_n hx hb dX5_back_0 rfl (lv_at hl 1 rfl) ?_
  refine lv_if_lt (tgt := 22) hx hb dX5_back_1 (by decide) (fun c_1 => ?_) (fun c_1 => ?_)
  · skip
    refine lv_iconst (v := 0) hx hb dX5_back_22 (by decide) ?_
    exact hE _ _ _ (by rfl) rfl dX5_back_23
  · skip
    refine lv_iload_n hx hb dX5_back_4 rfl (lv_at hl 1 rfl) ?_
    refine lv_aload_n hx hb dX5_back_5 rfl (lv_at hl 0 rfl) ?_
    refine x_get (v := .ref (P 1)) (C := RX5) (T := TX5) (N := 4) hx hb hts hi5 hown hK hP 0 rfl rfl 1 (by decide) (hts (.fieldLink RX5 16 "PulseWheel" "images" "[LPulseWheel$Bench;") (by decide +kernel)) rfl rfl dX5_back_6 ?_
    refine va_alen (v := 4) hx hb hK hP 1 1 rfl rfl rfl dX5_back_9 ?_
    refine lv_icmp_ge (tgt := 22) hx hb dX5_back_10 (by decide) (fun c_10 => ?_) (fun c_10 => ?_)
    · skip
      refine lv_iconst (v := 0) hx hb dX5_back_22 (by decide) ?_
      exact hE _ _ _ (by rfl) rfl dX5_back_23
    · exact absurd (ho.elim (fun h => absurd h c_1) id) c_10

def rm_X5_back_none : Room := { frames := 0, cells := 0, slots := 0, locals := 0 }
set_option maxHeartbeats 1000000 in
set_option maxRecDepth 100000 in
theorem c_X5_back_none (l : Launch) (D : va_G) (cI cB : ClassId) (P : Nat → Nat) (b : Nat) (A1 : Nat → Nat) (A2 : Nat → Nat) (tw : Int32) (im : Nat → Option Nat) (tp : Nat → Int32) (t : Int32) (ap : Int32) (r1 : Tb) (r2 : Tb) (k : Int32) (hk0 : ¬ k < 0) (hk4 : k < 4) (hin : im k.toNatClampNeg = none) : SI l D cI cB yX5_back wsX5_back rm_X5_back_none [.ref (P 0), .int k] (pwW P b A1 A2 cI cB tw im tp t ap r1 r2) 0 := by
  refine SI.of (cc := cX5_back) (maxL := 2) (ty := .boolean) (by decide +kernel) rfl (Nat.le_of_ble_eq_true rfl) ?_
  intro p e s m args below meth c ls Q hT hP hD hl hE
  obtain ⟨hx, hb, hr, hlocks, hnm, hml, hown, hts, hK, hN⟩ := hT
  have hl : lv_has ls 2 [(0, .ref (P 0)), (1, .int k)] := hl
  have hi5 : ∀ w ∈ wsX50, w ∈ wsX5_back := by decide +kernel
  refine lv_iload_n hx hb dX5_back_0 rfl (lv_at hl 1 rfl) ?_
  refine lv_if_lt (tgt := 22) hx hb dX5_back_1 (by decide) (fun c_1 => ?_) (fun c_1 => ?_)
  · exact absurd c_1 (hk0)
  · skip
    refine lv_iload_n hx hb dX5_back_4 rfl (lv_at hl 1 rfl) ?_
    refine lv_aload_n hx hb dX5_back_5 rfl (lv_at hl 0 rfl) ?_
    refine x_get (v := .ref (P 1)) (C := RX5) (T := TX5) (N := 4) hx hb hts hi5 hown hK hP 0 rfl rfl 1 (by decide) (hts (.fieldLink RX5 16 "PulseWheel" "images" "[LPulseWheel$Bench;") (by decide +kernel)) rfl rfl dX5_back_6 ?_
    refine va_alen (v := 4) hx hb hK hP 1 1 rfl rfl rfl dX5_back_9 ?_
    refine lv_icmp_ge (tgt := 22) hx hb dX5_back_10 (by decide) (fun c_10 => ?_) (fun c_10 => ?_)
    · exact absurd c_10 (Int32.not_le.mpr hk4)
    · skip
      refine lv_aload_n hx hb dX5_back_13 rfl (lv_at hl 0 rfl) ?_
      refine x_get (v := .ref (P 1)) (C := RX5) (T := TX5) (N := 4) hx hb hts hi5 hown hK hP 0 rfl rfl 1 (by decide) (hts (.fieldLink RX5 16 "PulseWheel" "images" "[LPulseWheel$Bench;") (by decide +kernel)) rfl rfl dX5_back_14 ?_
      refine lv_iload_n hx hb dX5_back_17 rfl (lv_at hl 1 rfl) ?_
      have hq_1 := ix_in (i := k) (n := 4) k.toNatClampNeg ((k4_ok hk0 hk4).1) ((k4_ok hk0 hk4).2) (by decide)
      refine x_aldN hx hb hK hP 1 rfl hq_1.1 (by rw [hq_1.2]; exact hin) dX5_back_18 ?_
      refine lv_ifnonnullN hx hb dX5_back_19 ?_
      refine lv_iconst (v := 0) hx hb dX5_back_22 (by decide) ?_
      exact hE _ _ _ (by rfl) rfl dX5_back_23

def rm_X5_back_some : Room := { frames := 4, cells := 0, slots := 0, locals := 123 }
set_option maxHeartbeats 1000000 in
set_option maxRecDepth 100000 in
theorem c_X5_back_some (l : Launch) (D : va_G) (cI cB : ClassId) (P : Nat → Nat) (b : Nat) (A1 : Nat → Nat) (A2 : Nat → Nat) (tw : Int32) (im : Nat → Option Nat) (tp : Nat → Int32) (t : Int32) (ap : Int32) (r1 : Tb) (r2 : Tb) (bq : Nat) (B1 : Nat → Nat) (B2 : Nat → Nat) (u : Int32) (aq : Int32) (q1 : Tb) (q2 : Tb) (k : Int32) (hk0 : ¬ k < 0) (hk4 : k < 4) (hin : im k.toNatClampNeg = some bq) (h1 : q1 0 10 = 0 ∨ q1 0 10 = 1) (h2 : q2 0 10 = 0 ∨ q2 0 10 = 1) : CI l D cI cB yX5_back wsX5_back rm_X5_back_some [.ref (P 0), .int k] (pwW P b A1 A2 cI cB tw im tp t ap r1 r2 ++ benchW bq B1 B2 cI u aq q1 q2) (pwW P b A1 A2 cI cB tw im tp u aq (copyR r1 q1) (copyR r2 q2) ++ benchW bq B1 B2 cI u aq q1 q2) 1 := by
  refine CI.of (cc := cX5_back) (maxL := 2) (ty := .boolean) (by decide +kernel) rfl (Nat.le_of_ble_eq_true rfl) ?_
  intro p e s m args below meth c ls A0 Q hT hH hA hl hE
  obtain ⟨hx, hb, hr, hlocks, hnm, hml, hown, hts, hK, hN⟩ := hT
  have hl : lv_has ls 2 [(0, .ref (P 0)), (1, .int k)] := hl
  have hi5 : ∀ w ∈ wsX50, w ∈ wsX5_back := by decide +kernel
  refine lv_iload_n hx hb dX5_back_0 rfl (lv_at hl 1 rfl) ?_
  refine lv_if_lt (tgt := 22) hx hb dX5_back_1 (by decide) (fun c_1 => ?_) (fun c_1 => ?_)
  · exact absurd c_1 (hk0)
  · skip
    refine lv_iload_n hx hb dX5_back_4 rfl (lv_at hl 1 rfl) ?_
    refine lv_aload_n hx hb dX5_back_5 rfl (lv_at hl 0 rfl) ?_
    refine x_get (v := .ref (P 1)) (C := RX5) (T := TX5) (N := 4) hx hb hts hi5 hown hK hH.1 0 rfl rfl 1 (by decide) (hts (.fieldLink RX5 16 "PulseWheel" "images" "[LPulseWheel$Bench;") (by decide +kernel)) rfl rfl dX5_back_6 ?_
    refine va_alen (v := 4) hx hb hK hH.1 1 1 rfl rfl rfl dX5_back_9 ?_
    refine lv_icmp_ge (tgt := 22) hx hb dX5_back_10 (by decide) (fun c_10 => ?_) (fun c_10 => ?_)
    · exact absurd c_10 (Int32.not_le.mpr hk4)
    · skip
      refine lv_aload_n hx hb dX5_back_13 rfl (lv_at hl 0 rfl) ?_
      refine x_get (v := .ref (P 1)) (C := RX5) (T := TX5) (N := 4) hx hb hts hi5 hown hK hH.1 0 rfl rfl 1 (by decide) (hts (.fieldLink RX5 16 "PulseWheel" "images" "[LPulseWheel$Bench;") (by decide +kernel)) rfl rfl dX5_back_14 ?_
      refine lv_iload_n hx hb dX5_back_17 rfl (lv_at hl 1 rfl) ?_
      have hq_1 := ix_in (i := k) (n := 4) k.toNatClampNeg ((k4_ok hk0 hk4).1) ((k4_ok hk0 hk4).2) (by decide)
      refine x_aldS hx hb hK hH.1 1 rfl hq_1.1 (by rw [hq_1.2]; exact hin) dX5_back_18 ?_
      refine lv_ifnonnull (tgt := 24) hx hb dX5_back_19 (by decide) ?_
      refine lv_aload_n hx hb dX5_back_24 rfl (lv_at hl 0 rfl) ?_
      refine x_get (v := .ref b) (C := RX5) (T := TX5) (N := 4) hx hb hts hi5 hown hK hH.1 0 rfl rfl 0 (by decide) (hts (.fieldLink RX5 10 "PulseWheel" "bench" "LPulseWheel$Bench;") (by decide +kernel)) rfl rfl dX5_back_25 ?_
      refine lv_aload_n hx hb dX5_back_28 rfl (lv_at hl 0 rfl) ?_
      refine x_get (v := .ref (P 1)) (C := RX5) (T := TX5) (N := 4) hx hb hts hi5 hown hK hH.1 0 rfl rfl 1 (by decide) (hts (.fieldLink RX5 16 "PulseWheel" "images" "[LPulseWheel$Bench;") (by decide +kernel)) rfl rfl dX5_back_29 ?_
      refine lv_iload_n hx hb dX5_back_32 rfl (lv_at hl 1 rfl) ?_
      have hq_2 := ix_in (i := k) (n := 4) k.toNatClampNeg ((k4_ok hk0 hk4).1) ((k4_ok hk0 hk4).2) (by decide)
      refine x_aldS hx hb hK hH.1 1 rfl hq_2.1 (by rw [hq_2.2]; exact hin) dX5_back_33 ?_
      obtain ⟨t_3, et_3⟩ : ∃ z, z = u := ⟨_, rfl⟩
      obtain ⟨ap_4, eap_4⟩ : ∃ z, z = aq := ⟨_, rfl⟩
      obtain ⟨r1_5, er1_5⟩ : ∃ z, z = copyR r1 q1 := ⟨_, rfl⟩
      obtain ⟨r2_6, er2_6⟩ : ∃ z, z = copyR r2 q2 := ⟨_, rfl⟩
      refine kCV (ws' := (pwW P b A1 A2 cI cB tw im tp t_3 ap_4 r1_5 r2_6 ++ benchW bq B1 B2 cI u aq q1 q2)) (va_runVN (As := [.ref bq]) (rest := []) ⟨hx, hb, hml, hown, hts⟩ (c_X0_copyFrom l D cI cB b A1 A2 t ap r1 r2 bq B1 B2 u aq q1 q2 h1 h2 _) ⟨va_cnB 1 hts gX5_back_X0_copyFrom_n160 rfl rfl rfl (nwm5_160 (args := args) hN) (hts (.initialized RX0) (by decide +kernel)) (by decide +kernel) ⟨Nat.le_of_ble_eq_true rfl, Nat.le_of_ble_eq_true rfl⟩, hts (.instanceMethod yX0_copyFrom) (by decide +kernel), hts (.selects RX0 yX0_copyFrom yX0_copyFrom) (by decide +kernel)⟩ (preV_cut hH.1 hH.2.1 hK hN (ci := 0) rfl 3 rfl [3, 4, 5, 6, 7, 8, 9, 10, 11, 12, 13, 14, 15, 16, 17, 18, 19, 20, 21, 22, 23, 24, 25, 26, 27, 28, 29, 30, 31, 32, 33, 34, 35, 36, 37, 38, 39, 40] (by decide) rfl) rfl rfl hl.1 rfl (lv_room (Nat.le_of_ble_eq_true rfl)) dX5_back_34 ⟨Nat.zero_le _, Nat.zero_le _⟩) hH hA [3, 4, 5, 6, 7, 8, 9, 10, 11, 12, 13, 14, 15, 16, 17, 18, 19, 20, 21, 22, 23, 24, 25, 26, 27, 28, 29, 30, 31, 32, 33, 34, 35, 36, 37, 38, 39, 40] rfl adr_bench2 (by rw [et_3, eap_4, er1_5, er2_6]; exact putL_pwimg_bench2a) (fun H locs hH => ?_)
      refine lv_iconst (v := 1) hx hb dX5_back_37 (by decide) ?_
      have hf_t : t_3 = u := by subst er2_6; subst er1_5; subst eap_4; subst et_3; rfl
      have hf_ap : ap_4 = aq := by subst er2_6; subst er1_5; subst eap_4; subst et_3; rfl
      have hf_r1 : r1_5 = copyR r1 q1 := by subst er2_6; subst er1_5; subst eap_4; subst et_3; rfl
      have hf_r2 : r2_6 = copyR r2 q2 := by subst er2_6; subst er1_5; subst eap_4; subst et_3; rfl
      exact hE _ _ _ _ _ _ hH (((congrArg (fun zz => (pwW P b A1 A2 cI cB tw im tp zz ap_4 r1_5 r2_6 ++ benchW bq B1 B2 cI u aq q1 q2)) hf_t).trans ((congrArg (fun zz => (pwW P b A1 A2 cI cB tw im tp u zz r1_5 r2_6 ++ benchW bq B1 B2 cI u aq q1 q2)) hf_ap).trans ((congrArg (fun zz => (pwW P b A1 A2 cI cB tw im tp u aq zz r2_6 ++ benchW bq B1 B2 cI u aq q1 q2)) hf_r1).trans (congrArg (fun zz => (pwW P b A1 A2 cI cB tw im tp u aq (copyR r1 q1) zz ++ benchW bq B1 B2 cI u aq q1 q2)) hf_r2))))) (by subst er2_6; subst er1_5; subst eap_4; subst et_3; rfl) rfl dX5_back_38

def rm_X5_keep_some : Room := { frames := 4, cells := 0, slots := 0, locals := 123 }
set_option maxHeartbeats 1000000 in
set_option maxRecDepth 100000 in
theorem c_X5_keep_some (l : Launch) (D : va_G) (cI cB : ClassId) (P : Nat → Nat) (b : Nat) (A1 : Nat → Nat) (A2 : Nat → Nat) (tw : Int32) (im : Nat → Option Nat) (tp : Nat → Int32) (t : Int32) (ap : Int32) (r1 : Tb) (r2 : Tb) (bq : Nat) (B1 : Nat → Nat) (B2 : Nat → Nat) (u : Int32) (aq : Int32) (q1 : Tb) (q2 : Tb) (k : Int32) (hk0 : ¬ k < 0) (hk4 : k < 4) (hin : im k.toNatClampNeg = some bq) (h1 : r1 0 10 = 0 ∨ r1 0 10 = 1) (h2 : r2 0 10 = 0 ∨ r2 0 10 = 1) : CI l D cI cB yX5_keep wsX5_keep rm_X5_keep_some [.ref (P 0), .int k] (pwW P b A1 A2 cI cB tw im tp t ap r1 r2 ++ benchW bq B1 B2 cI u aq q1 q2) (pwW P b A1 A2 cI cB tw im tp t ap r1 r2 ++ benchW bq B1 B2 cI t ap (copyR q1 r1) (copyR q2 r2)) 1 := by
  refine CI.of (cc := cX5_keep) (maxL := 2) (ty := .boolean) (by decide +kernel) rfl (Nat.le_of_ble_eq_true rfl) ?_
  intro p e s m args below meth c ls A0 Q hT hH hA hl hE
  obtain ⟨hx, hb, hr, hlocks, hnm, hml, hown, hts, hK, hN⟩ := hT
  have hl : lv_has ls 2 [(0, .ref (P 0)), (1, .int k)] := hl
  have hi5 : ∀ w ∈ wsX50, w ∈ wsX5_keep := by decide +kernel
  refine lv_iload_n hx hb dX5_keep_0 rfl (lv_at hl 1 rfl) ?_
  refine lv_if_lt (tgt := 13) hx hb dX5_keep_1 (by decide) (fun c_1 => ?_) (fun c_1 => ?_)
  · exact absurd c_1 (hk0)
  · skip
    refine lv_iload_n hx hb dX5_keep_4 rfl (lv_at hl 1 rfl) ?_
    refine lv_aload_n hx hb dX5_keep_5 rfl (lv_at hl 0 rfl) ?_
    refine x_get (v := .ref (P 1)) (C := RX5) (T := TX5) (N := 4) hx hb hts hi5 hown hK hH.1 0 rfl rfl 1 (by decide) (hts (.fieldLink RX5 16 "PulseWheel" "images" "[LPulseWheel$Bench;") (by decide +kernel)) rfl rfl dX5_keep_6 ?_
    refine va_alen (v := 4) hx hb hK hH.1 1 1 rfl rfl rfl dX5_keep_9 ?_
    refine lv_icmp_lt (tgt := 15) hx hb dX5_keep_10 (by decide) (fun c_10 => ?_) (fun c_10 => ?_)
    · skip
      refine lv_aload_n hx hb dX5_keep_15 rfl (lv_at hl 0 rfl) ?_
      refine x_get (v := .ref (P 1)) (C := RX5) (T := TX5) (N := 4) hx hb hts hi5 hown hK hH.1 0 rfl rfl 1 (by decide) (hts (.fieldLink RX5 16 "PulseWheel" "images" "[LPulseWheel$Bench;") (by decide +kernel)) rfl rfl dX5_keep_16 ?_
      refine lv_iload_n hx hb dX5_keep_19 rfl (lv_at hl 1 rfl) ?_
      have hq_1 := ix_in (i := k) (n := 4) k.toNatClampNeg ((k4_ok hk0 hk4).1) ((k4_ok hk0 hk4).2) (by decide)
      refine x_aldS hx hb hK hH.1 1 rfl hq_1.1 (by rw [hq_1.2]; exact hin) dX5_keep_20 ?_
      refine lv_ifnonnull (tgt := 37) hx hb dX5_keep_21 (by decide) ?_
      refine lv_aload_n hx hb dX5_keep_37 rfl (lv_at hl 0 rfl) ?_
      refine x_get (v := .ref (P 1)) (C := RX5) (T := TX5) (N := 4) hx hb hts hi5 hown hK hH.1 0 rfl rfl 1 (by decide) (hts (.fieldLink RX5 16 "PulseWheel" "images" "[LPulseWheel$Bench;") (by decide +kernel)) rfl rfl dX5_keep_38 ?_
      refine lv_iload_n hx hb dX5_keep_41 rfl (lv_at hl 1 rfl) ?_
      have hq_2 := ix_in (i := k) (n := 4) k.toNatClampNeg ((k4_ok hk0 hk4).1) ((k4_ok hk0 hk4).2) (by decide)
      refine x_aldS hx hb hK hH.1 1 rfl hq_2.1 (by rw [hq_2.2]; exact hin) dX5_keep_42 ?_
      refine lv_aload_n hx hb dX5_keep_43 rfl (lv_at hl 0 rfl) ?_
      refine x_get (v := .ref b) (C := RX5) (T := TX5) (N := 4) hx hb hts hi5 hown hK hH.1 0 rfl rfl 0 (by decide) (hts (.fieldLink RX5 10 "PulseWheel" "bench" "LPulseWheel$Bench;") (by decide +kernel)) rfl rfl dX5_keep_44 ?_
      obtain ⟨u_3, eu_3⟩ : ∃ z, z = t := ⟨_, rfl⟩
      obtain ⟨aq_4, eaq_4⟩ : ∃ z, z = ap := ⟨_, rfl⟩
      obtain ⟨q1_5, eq1_5⟩ : ∃ z, z = copyR q1 r1 := ⟨_, rfl⟩
      obtain ⟨q2_6, eq2_6⟩ : ∃ z, z = copyR q2 r2 := ⟨_, rfl⟩
      refine kCV (ws' := (pwW P b A1 A2 cI cB tw im tp t ap r1 r2 ++ benchW bq B1 B2 cI u_3 aq_4 q1_5 q2_6)) (va_runVN (As := [.ref b]) (rest := []) ⟨hx, hb, hml, hown, hts⟩ (c_X0_copyFrom l D cI cB bq B1 B2 u aq q1 q2 b A1 A2 t ap r1 r2 h1 h2 _) ⟨va_cnB 1 hts gX5_keep_X0_copyFrom_n160 rfl rfl rfl (nwm5_160 (args := args) hN) (hts (.initialized RX0) (by decide +kernel)) (by decide +kernel) ⟨Nat.le_of_ble_eq_true rfl, Nat.le_of_ble_eq_true rfl⟩, hts (.instanceMethod yX0_copyFrom) (by decide +kernel), hts (.selects RX0 yX0_copyFrom yX0_copyFrom) (by decide +kernel)⟩ (preV_cut hH.1 hH.2.1 hK hN (ci := 0) rfl 22 rfl [22, 23, 24, 25, 26, 27, 28, 29, 30, 31, 32, 33, 34, 35, 36, 37, 38, 39, 40, 3, 4, 5, 6, 7, 8, 9, 10, 11, 12, 13, 14, 15, 16, 17, 18, 19, 20, 21] (by decide) rfl) rfl rfl hl.1 rfl (lv_room (Nat.le_of_ble_eq_true rfl)) dX5_keep_47 ⟨Nat.zero_le _, Nat.zero_le _⟩) hH hA [22, 23, 24, 25, 26, 27, 28, 29, 30, 31, 32, 33, 34, 35, 36, 37, 38, 39, 40, 3, 4, 5, 6, 7, 8, 9, 10, 11, 12, 13, 14, 15, 16, 17, 18, 19, 20, 21] rfl adr_bench2 (by rw [eu_3, eaq_4, eq1_5, eq2_6]; exact putL_pwimg_bench2b) (fun H locs hH => ?_)
      refine lv_iconst (v := 1) hx hb dX5_keep_50 (by decide) ?_
      have hf_u : u_3 = t := by subst eq2_6; subst eq1_5; subst eaq_4; subst eu_3; rfl
      have hf_aq : aq_4 = ap := by subst eq2_6; subst eq1_5; subst eaq_4; subst eu_3; rfl
      have hf_q1 : q1_5 = copyR q1 r1 := by subst eq2_6; subst eq1_5; subst eaq_4; subst eu_3; rfl
      have hf_q2 : q2_6 = copyR q2 r2 := by subst eq2_6; subst eq1_5; subst eaq_4; subst eu_3; rfl
      exact hE _ _ _ _ _ _ hH (((congrArg (fun zz => (pwW P b A1 A2 cI cB tw im tp t ap r1 r2 ++ benchW bq B1 B2 cI zz aq_4 q1_5 q2_6)) hf_u).trans ((congrArg (fun zz => (pwW P b A1 A2 cI cB tw im tp t ap r1 r2 ++ benchW bq B1 B2 cI t zz q1_5 q2_6)) hf_aq).trans ((congrArg (fun zz => (pwW P b A1 A2 cI cB tw im tp t ap r1 r2 ++ benchW bq B1 B2 cI t ap zz q2_6)) hf_q1).trans (congrArg (fun zz => (pwW P b A1 A2 cI cB tw im tp t ap r1 r2 ++ benchW bq B1 B2 cI t ap (copyR q1 r1) zz)) hf_q2))))) (by subst eq2_6; subst eq1_5; subst eaq_4; subst eu_3; rfl) rfl dX5_keep_51
    · exact absurd (hk4) c_10

def rm_X5_keep_none : Room := { frames := 4, cells := 19, slots := 2988, locals := 123 }
set_option maxHeartbeats 1000000 in
set_option maxRecDepth 100000 in
theorem c_X5_keep_none (l : Launch) (D : va_G) (cI cB : ClassId) (P : Nat → Nat) (b : Nat) (A1 : Nat → Nat) (A2 : Nat → Nat) (tw : Int32) (im : Nat → Option Nat) (tp : Nat → Int32) (t : Int32) (ap : Int32) (r1 : Tb) (r2 : Tb) (k : Int32) (hk0 : ¬ k < 0) (hk4 : k < 4) (hin : im k.toNatClampNeg = none) (h1 : r1 0 10 = 0 ∨ r1 0 10 = 1) (h2 : r2 0 10 = 0 ∨ r2 0 10 = 1) : CJ l D cI cB yX5_keep wsX5_keep rm_X5_keep_none [.ref (P 0), .int k] (pwW P b A1 A2 cI cB tw im tp t ap r1 r2) 19 2988 (fun x w1 => x = 1 ∧ ∃ (bq : Nat) (B1 B2 : Nat → Nat), w1 = pwW P b A1 A2 cI cB tw (va_up im k.toNatClampNeg (some bq)) tp t ap r1 r2 ++ benchW bq B1 B2 cI t ap (copyR newT r1) (copyR newT r2)) := by
  refine CJ.of (cc := cX5_keep) (maxL := 2) (ty := .boolean) (by decide +kernel) rfl (Nat.le_of_ble_eq_true rfl) ?_
  intro p e s m args below meth c ls A0 Q hT hH hA hl hE
  obtain ⟨hx, hb, hr, hlocks, hnm, hml, hown, hts, hK, hN⟩ := hT
  have hl : lv_has ls 2 [(0, .ref (P 0)), (1, .int k)] := hl
  have hi0 : ∀ w ∈ wsX00, w ∈ wsX5_keep := by decide +kernel
  have hi5 : ∀ w ∈ wsX50, w ∈ wsX5_keep := by decide +kernel
  refine lv_iload_n hx hb dX5_keep_0 rfl (lv_at hl 1 rfl) ?_
  refine lv_if_lt (tgt := 13) hx hb dX5_keep_1 (by decide) (fun c_1 => ?_) (fun c_1 => ?_)
  · exact absurd c_1 (hk0)
  · skip
    refine lv_iload_n hx hb dX5_keep_4 rfl (lv_at hl 1 rfl) ?_
    refine lv_aload_n hx hb dX5_keep_5 rfl (lv_at hl 0 rfl) ?_
    refine x_get (v := .ref (P 1)) (C := RX5) (T := TX5) (N := 4) hx hb hts hi5 hown hK hH.1 0 rfl rfl 1 (by decide) (hts (.fieldLink RX5 16 "PulseWheel" "images" "[LPulseWheel$Bench;") (by decide +kernel)) rfl rfl dX5_keep_6 ?_
    refine va_alen (v := 4) hx hb hK hH.1 1 1 rfl rfl rfl dX5_keep_9 ?_
    refine lv_icmp_lt (tgt := 15) hx hb dX5_keep_10 (by decide) (fun c_10 => ?_) (fun c_10 => ?_)
    · skip
      refine lv_aload_n hx hb dX5_keep_15 rfl (lv_at hl 0 rfl) ?_
      refine x_get (v := .ref (P 1)) (C := RX5) (T := TX5) (N := 4) hx hb hts hi5 hown hK hH.1 0 rfl rfl 1 (by decide) (hts (.fieldLink RX5 16 "PulseWheel" "images" "[LPulseWheel$Bench;") (by decide +kernel)) rfl rfl dX5_keep_16 ?_
      refine lv_iload_n hx hb dX5_keep_19 rfl (lv_at hl 1 rfl) ?_
      have hq_1 := ix_in (i := k) (n := 4) k.toNatClampNeg ((k4_ok hk0 hk4).1) ((k4_ok hk0 hk4).2) (by decide)
      refine x_aldN hx hb hK hH.1 1 rfl hq_1.1 (by rw [hq_1.2]; exact hin) dX5_keep_20 ?_
      refine lv_ifnonnullN hx hb dX5_keep_21 ?_
      refine lv_aload_n hx hb dX5_keep_24 rfl (lv_at hl 0 rfl) ?_
      refine x_get (v := .ref (P 1)) (C := RX5) (T := TX5) (N := 4) hx hb hts hi5 hown hK hH.1 0 rfl rfl 1 (by decide) (hts (.fieldLink RX5 16 "PulseWheel" "images" "[LPulseWheel$Bench;") (by decide +kernel)) rfl rfl dX5_keep_25 ?_
      refine lv_iload_n hx hb dX5_keep_28 rfl (lv_at hl 1 rfl) ?_
      refine x_newc (ci := 0) (fs := [.null, .null, .int 0, .int 0]) (C := RX0) (T := TX0) (N := 4) hx hb hts hi0 tyX0_ok hown (hts (.classLink RX5 7 RX0) (by decide +kernel)) (hts (.instantiable RX0 4) (by decide +kernel)) (hts (.initialized RX0) (by decide +kernel)) hK hH hA rfl (fun j hj => by rcases (show j = 0 ∨ j = 1 ∨ j = 2 ∨ j = 3 by omega) with rfl | rfl | rfl | rfl <;> rfl) (Nat.le_of_ble_eq_true rfl) (Nat.le_of_ble_eq_true rfl) dX5_keep_29 (fun q_2 H hH => ?_)
      refine W.widen (k := 1) (n := 4) (Nat.le_of_ble_eq_true rfl) (Nat.le_of_ble_eq_true rfl) ?_
      refine lv_dup hx hb dX5_keep_32 rfl ?_
      have hH := hH.perm (List.perm_append_comm (l₁ := (pwW P b A1 A2 cI cB tw im tp t ap r1 r2)) (l₂ := [(q_2, .inr (0, [.null, .null, .int 0, .int 0]))]))
      refine kCN (wc := [(q_2, .inr (0, [.null, .null, .int 0, .int 0]))]) (wr := (pwW P b A1 A2 cI cB tw im tp t ap r1 r2)) (va_runIN (As := []) (rest := [.ref q_2, .int k, .ref (P 1)]) ⟨hx, hb, hml, hown, hts⟩ (c_X0_init l D cI cB q_2 _) ⟨va_cnB 0 hts gX5_keep_X0_init_n9 rfl rfl rfl (nwm5_9 (args := args) hN) (hts (.initialized RX0) (by decide +kernel)) (by decide +kernel) ⟨Nat.le_of_ble_eq_true rfl, Nat.le_of_ble_eq_true rfl⟩, rfl, hts (.instanceMethod yX0_init) (by decide +kernel)⟩ (preS_pre hH.1.left hH.2.1.left hK hN) rfl rfl hl.1 rfl (lv_room (Nat.le_of_ble_eq_true rfl)) dX5_keep_33 ⟨Nat.le_of_ble_eq_true rfl, Nat.le_of_ble_eq_true rfl⟩) hH hA (fun w1 H2 locs2 hp hG => ?_)
      obtain ⟨B_3, B_3', hw_B_3⟩ := hp
      subst hw_B_3
      have hH : Hd D A0 s (pwW P b A1 A2 cI cB tw im tp t ap r1 r2 ++ benchW q_2 B_3 B_3' cI 0 (-1) newT newT) H2 locs2 := hG.perm List.perm_append_comm
      refine W.widen (k := 19) (n := 2988) (Nat.le_of_ble_eq_true rfl) (Nat.le_of_ble_eq_true rfl) ?_
      have hq_4 := ix_in (i := k) (n := 4) k.toNatClampNeg ((k4_ok hk0 hk4).1) ((k4_ok hk0 hk4).2) (by decide)
      refine x_ast (ws' := (pwW P b A1 A2 cI cB tw (va_up im k.toNatClampNeg (some q_2)) tp t ap r1 r2 ++ benchW q_2 B_3 B_3' cI 0 (-1) newT newT)) hx hb hK hH 1 22 rfl rfl hq_4.1 hq_4.2 dX5_keep_36 rfl (fun H locs hH => ?_)
      refine lv_aload_n hx hb dX5_keep_37 rfl (lv_at hl 0 rfl) ?_
      refine x_get (v := .ref (P 1)) (C := RX5) (T := TX5) (N := 4) hx hb hts hi5 hown hK hH.1 0 rfl rfl 1 (by decide) (hts (.fieldLink RX5 16 "PulseWheel" "images" "[LPulseWheel$Bench;") (by decide +kernel)) rfl rfl dX5_keep_38 ?_
      refine lv_iload_n hx hb dX5_keep_41 rfl (lv_at hl 1 rfl) ?_
      have hq_5 := ix_in (i := k) (n := 4) k.toNatClampNeg ((k4_ok hk0 hk4).1) ((k4_ok hk0 hk4).2) (by decide)
      refine x_aldS hx hb hK hH.1 1 rfl hq_5.1 (by rw [hq_5.2]; exact va_up_self _ _ _) dX5_keep_42 ?_
      refine lv_aload_n hx hb dX5_keep_43 rfl (lv_at hl 0 rfl) ?_
      refine x_get (v := .ref b) (C := RX5) (T := TX5) (N := 4) hx hb hts hi5 hown hK hH.1 0 rfl rfl 0 (by decide) (hts (.fieldLink RX5 10 "PulseWheel" "bench" "LPulseWheel$Bench;") (by decide +kernel)) rfl rfl dX5_keep_44 ?_
      obtain ⟨u_6, eu_6⟩ : ∃ z, z = t := ⟨_, rfl⟩
      obtain ⟨aq_7, eaq_7⟩ : ∃ z, z = ap := ⟨_, rfl⟩
      obtain ⟨q1_8, eq1_8⟩ : ∃ z, z = copyR newT r1 := ⟨_, rfl⟩
      obtain ⟨q2_9, eq2_9⟩ : ∃ z, z = copyR newT r2 := ⟨_, rfl⟩
      refine kCV (ws' := (pwW P b A1 A2 cI cB tw (va_up im k.toNatClampNeg (some q_2)) tp t ap r1 r2 ++ benchW q_2 B_3 B_3' cI u_6 aq_7 q1_8 q2_9)) (va_runVN (As := [.ref b]) (rest := []) ⟨hx, hb, hml, hown, hts⟩ (c_X0_copyFrom l D cI cB q_2 B_3 B_3' 0 (-1) newT newT b A1 A2 t ap r1 r2 h1 h2 _) ⟨va_cnB 1 hts gX5_keep_X0_copyFrom_n160 rfl rfl rfl (nwm5_160 (args := args) hN) (hts (.initialized RX0) (by decide +kernel)) (by decide +kernel) ⟨Nat.le_of_ble_eq_true rfl, Nat.le_of_ble_eq_true rfl⟩, hts (.instanceMethod yX0_copyFrom) (by decide +kernel), hts (.selects RX0 yX0_copyFrom yX0_copyFrom) (by decide +kernel)⟩ (preV_cut hH.1 hH.2.1 hK hN (ci := 0) rfl 22 rfl [22, 23, 24, 25, 26, 27, 28, 29, 30, 31, 32, 33, 34, 35, 36, 37, 38, 39, 40, 3, 4, 5, 6, 7, 8, 9, 10, 11, 12, 13, 14, 15, 16, 17, 18, 19, 20, 21] (by decide) rfl) rfl rfl hl.1 rfl (lv_room (Nat.le_of_ble_eq_true rfl)) dX5_keep_47 ⟨Nat.le_of_ble_eq_true rfl, Nat.le_of_ble_eq_true rfl⟩) hH hA [22, 23, 24, 25, 26, 27, 28, 29, 30, 31, 32, 33, 34, 35, 36, 37, 38, 39, 40, 3, 4, 5, 6, 7, 8, 9, 10, 11, 12, 13, 14, 15, 16, 17, 18, 19, 20, 21] rfl adr_bench2 (by rw [eu_6, eaq_7, eq1_8, eq2_9]; exact putL_pwimg_bench2b) (fun H locs hH => ?_)
      refine lv_iconst (v := 1) hx hb dX5_keep_50 (by decide) ?_
      exact hE _ _ _ _ _ _ hH (⟨rfl, q_2, B_3, B_3', by rw [eu_6, eaq_7, eq1_8, eq2_9]⟩) rfl dX5_keep_51
    · exact absurd (hk4) c_10
