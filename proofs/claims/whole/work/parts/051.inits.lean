/-! ### constructors -/
def zT : Tb := fun _ _ => 0
def newT : Tb := fun c k => if c = 0 then (if k = 4 then 1 else if k = 5 then 16 else 0) else 0
def newM : Tb := fun c => if c = 0 then (fun k => if k = 5 then -1 else 0) else if c = 1 then upd (upd (upd (upd (fun _ => 0) 0 1) 1 16) 1510 1) 1511 16 else fun _ => 0
theorem perm_pw (x b i t : va_W) : List.Perm (x ++ b ++ i ++ t) ((x ++ i ++ t) ++ b) := by
  have h : List.Perm (b ++ (i ++ t)) ((i ++ t) ++ b) := List.perm_append_comm
  have h2 := h.append_left x
  simpa [List.append_assoc] using h2
def preO (D : va_G) (cI cB : ClassId) (w0 : va_W) (sz : Nat) (U : State) : Prop := pre D cI cB w0 sz U ∧ va_AO "PulseWheel$Bench" U
theorem preO_S {D : va_G} {cI cB : ClassId} {w0 : va_W} {A : Nat → Prop} {s : State} {H : Heap} {av : List Value} (hP : va_P D vwCl w0 H) (hD : va_D A w0) (hK : va_K D vwCl (tyL cI cB) s) (hN : NW s) (hO : va_AO "PulseWheel$Bench" s) : PreS s H (va_Pc av (preO D cI cB w0 H.size)) av := by
  refine ⟨?_, fun U hU hW => ?_⟩
  · intro a U g mk q
    obtain ⟨q0, q1, qO⟩ := q
    exact ⟨q0, (pre_blind (av := av) a U g mk ⟨q0, q1⟩).2, va_AO.moved (u := U) (Vm.Alike.refl U.vm) qO⟩
  · exact ⟨rfl, ((preS_pre (av := av) hP hD hK hN).2 U hU hW).2, va_AO.moved hW.alike hO⟩
def CNO (l : Launch) (D : va_G) (cI cB : ClassId) (y : MethodName) (wy : List Cond) (rm : Room) (av : List Value) (w0 : va_W) (mc ms : Nat) (post : va_W → Prop) : Prop := ∀ sz, Met l y wy rm (va_Pc av (preO D cI cB w0 sz)) (va_Qv (fun w1 : va_W => post w1) (fun w1 t => va_P D vwCl w1 t.heap ∧ va_D (va_A w0 sz) w1) (va_A w0 sz)) mc ms (va_A w0 sz)
theorem CNO.of {l : Launch} {D : va_G} {cI cB : ClassId} {y : MethodName} {wy ws' : List Cond} {rm : Room} {av : List Value} {w0 : va_W} {mc ms : Nat} {post : va_W → Prop} {cc : ByteArray} {maxL : Nat} (hy : plainFor y = true) (hw : wy = Cond.code y cc maxL none :: ws') (hn : (lg_sl av).length ≤ maxL)
    (body : ∀ p e s m args below meth c ls A Q, At p s m meth c cc maxL none y.cls y.name wy args D cI cB ∧ va_AO "PulseWheel$Bench" s → Hd D A s w0 s.heap [] → (∀ q : Nat, s.heap.size ≤ q → A q) → lv_has ls maxL (lv_args 0 av) → (∀ (ws : va_W) (pc : Nat) (ls : Array Slot) (H : Heap) (locs : List Loc), Hd D A s ws H locs → post ws → decode cc pc = .ok (.return_, 1) → W p l e rm s m args below meth c H locs mc ms Q (F0 m pc ls [])) → W p l e rm s m args below meth c s.heap [] 0 0 Q (F0 m 0 ls [])) : CNO l D cI cB y wy rm av w0 mc ms post := by
  intro sz
  refine va_MetF (cc := cc) (maxL := maxL) (ret := none) hy hw ?_
  intro p e s m args below meth c s₁ B hml hv
  obtain ⟨rfl, ⟨hsz, hP, hK, hD0, hN⟩, hO⟩ := hv
  subst hsz
  have hl := lv_entry av (n := maxL) hn
  rw [lg_entry_eq]
  exact body p e s m _ below meth c _ _ _ ⟨⟨B.exec, B.bytes, B.returns, B.notSynchronized, (name_of_methodNamed B.named B.method).1, hml, findClass_of_methodNamed B.named, atoms_spec (ws := wy) B.pre, hK, hN⟩, hO⟩ ⟨hP, hD0.self (sz := s.heap.size), va_S.rf⟩ (fun q h => Or.inr h) hl (fun ws pc ls H locs hH h hd => W.vret B.exec B.bytes B.returns (fun t ht _ => ⟨⟨ws, rfl, h, by rw [ht]; exact hH.1, hH.2.1⟩, hH.2.2.F ht⟩) hH.2.2.2.2 hd B.notSynchronized)

def rm_X1_init : Room := { frames := 1, cells := 3, slots := 900, locals := 20 }
set_option maxHeartbeats 1000000 in
set_option maxRecDepth 100000 in
theorem c_X1_init (l : Launch) (D : va_G) (cI cB : ClassId) (a : Nat) : CN l D cI cB yX1_init wsX1_init rm_X1_init [.ref a] ([(a, .inr (1, [.null, .null, .null, .int 0, .int 0]))] : va_W) 3 900 (fun w1 => ∃ A : Nat → Nat, A 3 = a ∧ w1 = logW A cI zT) := by
  refine CN.of (cc := cX1_init) (maxL := 1)  (by decide +kernel) rfl (Nat.le_of_ble_eq_true rfl) ?_
  intro p e s m args below meth c ls A0 Q hT hH hA hl hE
  obtain ⟨hx, hb, hr, hlocks, hnm, hml, hown, hts, hK, hN⟩ := hT
  have hl : lv_has ls 1 [(0, .ref a)] := hl
  have hi1 : ∀ w ∈ wsX10, w ∈ wsX1_init := by decide +kernel
  refine lv_aload_n hx hb dX1_init_0 rfl (lv_at hl 0 rfl) ?_
  refine W.objInit hx hb hown (hts (.methodLink RX1 3 objectInit) (by decide +kernel)) (hts (.instanceMethod objectInit) (by decide +kernel)) (hts (.code objectInit ⟨#[0xb1]⟩ 1 none) (by decide +kernel)) rfl (by rw [hml]; exact hl.1) rfl dX1_init_1 (Nat.le_of_ble_eq_true rfl) (Nat.le_of_ble_eq_true rfl) ?_
  refine W.eq (g2 := F0 m 4 ls []) rfl ?_
  refine lv_aload_n hx hb dX1_init_4 rfl (lv_at hl 0 rfl) ?_
  refine lv_sipush (v := 300) hx hb dX1_init_5 (by decide) ?_
  refine x_newa (N := 300) hx hb (hts (.arrayClass .int) (by decide +kernel)) hK hH hA (by decide) (by decide) (by decide) (Nat.le_of_ble_eq_true rfl) (Nat.le_of_ble_eq_true rfl) dX1_init_8 (fun q_1 H hH => ?_)
  refine W.widen (k := 1) (n := 300) (Nat.le_of_ble_eq_true rfl) (Nat.le_of_ble_eq_true rfl) ?_
  refine x_putF (ws' := (([(a, .inr (1, [.ref q_1, .null, .null, .int 0, .int 0]))] : va_W) ++ [(q_1, .inl (cI, 300, .inl (fun _ => 0)))])) (v := .ref q_1) (ty := (.array .int)) (C := RX1) (T := TX1) (N := 5) hx hb hts hi1 tyX1_ok nmX1 hown hK hH 0 rfl rfl 0 (by decide) (hts (.fieldLink RX1 9 "PulseWheel$EventLog" "sorts" "[I") (by decide +kernel)) rfl rfl hnm rfl rfl (rfl) (rfl) (Nat.le_of_ble_eq_true rfl) dX1_init_10 (rfl) (fun H locs hH => ?_)
  refine lv_aload_n hx hb dX1_init_13 rfl (lv_at hl 0 rfl) ?_
  refine lv_sipush (v := 300) hx hb dX1_init_14 (by decide) ?_
  refine x_newa (N := 300) hx hb (hts (.arrayClass .int) (by decide +kernel)) hK hH hA (by decide) (by decide) (by decide) (Nat.le_of_ble_eq_true rfl) (Nat.le_of_ble_eq_true rfl) dX1_init_17 (fun q_2 H hH => ?_)
  refine W.widen (k := 2) (n := 600) (Nat.le_of_ble_eq_true rfl) (Nat.le_of_ble_eq_true rfl) ?_
  refine x_putF (ws' := (([(a, .inr (1, [.ref q_1, .ref q_2, .null, .int 0, .int 0]))] : va_W) ++ [(q_1, .inl (cI, 300, .inl (fun _ => 0)))] ++ [(q_2, .inl (cI, 300, .inl (fun _ => 0)))])) (v := .ref q_2) (ty := (.array .int)) (C := RX1) (T := TX1) (N := 5) hx hb hts hi1 tyX1_ok nmX1 hown hK hH 0 rfl rfl 1 (by decide) (hts (.fieldLink RX1 15 "PulseWheel$EventLog" "ticks" "[I") (by decide +kernel)) rfl rfl hnm rfl rfl (rfl) (rfl) (Nat.le_of_ble_eq_true rfl) dX1_init_19 (rfl) (fun H locs hH => ?_)
  refine lv_aload_n hx hb dX1_init_22 rfl (lv_at hl 0 rfl) ?_
  refine lv_sipush (v := 300) hx hb dX1_init_23 (by decide) ?_
  refine x_newa (N := 300) hx hb (hts (.arrayClass .int) (by decide +kernel)) hK hH hA (by decide) (by decide) (by decide) (Nat.le_of_ble_eq_true rfl) (Nat.le_of_ble_eq_true rfl) dX1_init_26 (fun q_3 H hH => ?_)
  refine W.widen (k := 3) (n := 900) (Nat.le_of_ble_eq_true rfl) (Nat.le_of_ble_eq_true rfl) ?_
  refine x_putF (ws' := (([(a, .inr (1, [.ref q_1, .ref q_2, .ref q_3, .int 0, .int 0]))] : va_W) ++ [(q_1, .inl (cI, 300, .inl (fun _ => 0)))] ++ [(q_2, .inl (cI, 300, .inl (fun _ => 0)))] ++ [(q_3, .inl (cI, 300, .inl (fun _ => 0)))])) (v := .ref q_3) (ty := (.array .int)) (C := RX1) (T := TX1) (N := 5) hx hb hts hi1 tyX1_ok nmX1 hown hK hH 0 rfl rfl 2 (by decide) (hts (.fieldLink RX1 18 "PulseWheel$EventLog" "places" "[I") (by decide +kernel)) rfl rfl hnm rfl rfl (rfl) (rfl) (Nat.le_of_ble_eq_true rfl) dX1_init_28 (rfl) (fun H locs hH => ?_)
  exact hE _ _ _ _ _ hH (⟨(fun k : Nat => if k = 3 then a else if k = 4 then q_1 else if k = 5 then q_2 else q_3), rfl, rfl⟩) dX1_init_31

def rm_X4_init : Room := { frames := 1, cells := 1, slots := 64, locals := 20 }
set_option maxHeartbeats 1000000 in
set_option maxRecDepth 100000 in
theorem c_X4_init (l : Launch) (D : va_G) (cI cB : ClassId) (a : Nat) : CN l D cI cB yX4_init wsX4_init rm_X4_init [.ref a] ([(a, .inr (4, [.null, .int 0, .int 0]))] : va_W) 1 64 (fun w1 => ∃ A : Nat → Nat, A 7 = a ∧ w1 = teethW A cI zT) := by
  refine CN.of (cc := cX4_init) (maxL := 1)  (by decide +kernel) rfl (Nat.le_of_ble_eq_true rfl) ?_
  intro p e s m args below meth c ls A0 Q hT hH hA hl hE
  obtain ⟨hx, hb, hr, hlocks, hnm, hml, hown, hts, hK, hN⟩ := hT
  have hl : lv_has ls 1 [(0, .ref a)] := hl
  have hi4 : ∀ w ∈ wsX40, w ∈ wsX4_init := by decide +kernel
  refine lv_aload_n hx hb dX4_init_0 rfl (lv_at hl 0 rfl) ?_
  refine W.objInit hx hb hown (hts (.methodLink RX4 3 objectInit) (by decide +kernel)) (hts (.instanceMethod objectInit) (by decide +kernel)) (hts (.code objectInit ⟨#[0xb1]⟩ 1 none) (by decide +kernel)) rfl (by rw [hml]; exact hl.1) rfl dX4_init_1 (Nat.le_of_ble_eq_true rfl) (Nat.le_of_ble_eq_true rfl) ?_
  refine W.eq (g2 := F0 m 4 ls []) rfl ?_
  refine lv_aload_n hx hb dX4_init_4 rfl (lv_at hl 0 rfl) ?_
  refine lv_bipush (v := 64) hx hb dX4_init_5 (by decide) ?_
  refine x_newa (N := 64) hx hb (hts (.arrayClass .int) (by decide +kernel)) hK hH hA (by decide) (by decide) (by decide) (Nat.le_of_ble_eq_true rfl) (Nat.le_of_ble_eq_true rfl) dX4_init_7 (fun q_1 H hH => ?_)
  refine W.widen (k := 1) (n := 64) (Nat.le_of_ble_eq_true rfl) (Nat.le_of_ble_eq_true rfl) ?_
  refine x_putF (ws' := (([(a, .inr (4, [.ref q_1, .int 0, .int 0]))] : va_W) ++ [(q_1, .inl (cI, 64, .inl (fun _ => 0)))])) (v := .ref q_1) (ty := (.array .int)) (C := RX4) (T := TX4) (N := 3) hx hb hts hi4 tyX4_ok nmX4 hown hK hH 0 rfl rfl 0 (by decide) (hts (.fieldLink RX4 9 "PulseWheel$Teeth" "sums" "[I") (by decide +kernel)) rfl rfl hnm rfl rfl (rfl) (rfl) (Nat.le_of_ble_eq_true rfl) dX4_init_9 (rfl) (fun H locs hH => ?_)
  exact hE _ _ _ _ _ hH (⟨(fun k : Nat => if k = 7 then a else q_1), rfl, rfl⟩) dX4_init_12

def rm_X2_init : Room := { frames := 2, cells := 8, slots := 1476, locals := 40 }
set_option maxHeartbeats 1000000 in
set_option maxRecDepth 100000 in
theorem c_X2_init (l : Launch) (D : va_G) (cI cB : ClassId) (a : Nat) : CN l D cI cB yX2_init wsX2_init rm_X2_init [.ref a] ([(a, .inr (2, [.null, .null, .null, .null, .int 0, .int 0, .int 0, .int 0, .int 0, .int 0, .int 0, .int 0, .int 0, .int 0, .int 0, .int 0]))] : va_W) 8 1476 (fun w1 => ∃ A : Nat → Nat, A 0 = a ∧ w1 = readerW A cI newT) := by
  refine CN.of (cc := cX2_init) (maxL := 1)  (by decide +kernel) rfl (Nat.le_of_ble_eq_true rfl) ?_
  intro p e s m args below meth c ls A0 Q hT hH hA hl hE
  obtain ⟨hx, hb, hr, hlocks, hnm, hml, hown, hts, hK, hN⟩ := hT
  have hl : lv_has ls 1 [(0, .ref a)] := hl
  have hi1 : ∀ w ∈ wsX10, w ∈ wsX2_init := by decide +kernel
  have hi2 : ∀ w ∈ wsX20, w ∈ wsX2_init := by decide +kernel
  have hi4 : ∀ w ∈ wsX40, w ∈ wsX2_init := by decide +kernel
  refine lv_aload_n hx hb dX2_init_0 rfl (lv_at hl 0 rfl) ?_
  refine W.objInit hx hb hown (hts (.methodLink RX2 3 objectInit) (by decide +kernel)) (hts (.instanceMethod objectInit) (by decide +kernel)) (hts (.code objectInit ⟨#[0xb1]⟩ 1 none) (by decide +kernel)) rfl (by rw [hml]; exact hl.1) rfl dX2_init_1 (Nat.le_of_ble_eq_true rfl) (Nat.le_of_ble_eq_true rfl) ?_
  refine W.eq (g2 := F0 m 4 ls []) rfl ?_
  refine lv_aload_n hx hb dX2_init_4 rfl (lv_at hl 0 rfl) ?_
  refine lv_iconst (v := 3) hx hb dX2_init_5 (by decide) ?_
  refine x_newa (N := 3) hx hb (hts (.arrayClass .int) (by decide +kernel)) hK hH hA (by decide) (by decide) (by decide) (Nat.le_of_ble_eq_true rfl) (Nat.le_of_ble_eq_true rfl) dX2_init_6 (fun q_1 H hH => ?_)
  refine W.widen (k := 1) (n := 3) (Nat.le_of_ble_eq_true rfl) (Nat.le_of_ble_eq_true rfl) ?_
  refine x_putF (ws' := (([(a, .inr (2, [.ref q_1, .null, .null, .null, .int 0, .int 0, .int 0, .int 0, .int 0, .int 0, .int 0, .int 0, .int 0, .int 0, .int 0, .int 0]))] : va_W) ++ [(q_1, .inl (cI, 3, .inl (fun _ => 0)))])) (v := .ref q_1) (ty := (.array .int)) (C := RX2) (T := TX2) (N := 16) hx hb hts hi2 tyX2_ok nmX2 hown hK hH 0 rfl rfl 0 (by decide) (hts (.fieldLink RX2 9 "PulseWheel$Reader" "runs" "[I") (by decide +kernel)) rfl rfl hnm rfl rfl (rfl) (rfl) (Nat.le_of_ble_eq_true rfl) dX2_init_8 (rfl) (fun H locs hH => ?_)
  refine lv_aload_n hx hb dX2_init_11 rfl (lv_at hl 0 rfl) ?_
  refine lv_sipush (v := 501) hx hb dX2_init_12 (by decide) ?_
  refine x_newa (N := 501) hx hb (hts (.arrayClass .int) (by decide +kernel)) hK hH hA (by decide) (by decide) (by decide) (Nat.le_of_ble_eq_true rfl) (Nat.le_of_ble_eq_true rfl) dX2_init_15 (fun q_2 H hH => ?_)
  refine W.widen (k := 2) (n := 504) (Nat.le_of_ble_eq_true rfl) (Nat.le_of_ble_eq_true rfl) ?_
  refine x_putF (ws' := (([(a, .inr (2, [.ref q_1, .ref q_2, .null, .null, .int 0, .int 0, .int 0, .int 0, .int 0, .int 0, .int 0, .int 0, .int 0, .int 0, .int 0, .int 0]))] : va_W) ++ [(q_1, .inl (cI, 3, .inl (fun _ => 0)))] ++ [(q_2, .inl (cI, 501, .inl (fun _ => 0)))])) (v := .ref q_2) (ty := (.array .int)) (C := RX2) (T := TX2) (N := 16) hx hb hts hi2 tyX2_ok nmX2 hown hK hH 0 rfl rfl 1 (by decide) (hts (.fieldLink RX2 15 "PulseWheel$Reader" "path" "[I") (by decide +kernel)) rfl rfl hnm rfl rfl (rfl) (rfl) (Nat.le_of_ble_eq_true rfl) dX2_init_17 (rfl) (fun H locs hH => ?_)
  refine lv_aload_n hx hb dX2_init_20 rfl (lv_at hl 0 rfl) ?_
  refine x_newc (ci := 1) (fs := [.null, .null, .null, .int 0, .int 0]) (C := RX1) (T := TX1) (N := 5) hx hb hts hi1 tyX1_ok hown (hts (.classLink RX2 18 RX1) (by decide +kernel)) (hts (.instantiable RX1 5) (by decide +kernel)) (hts (.initialized RX1) (by decide +kernel)) hK hH hA rfl (fun j hj => by rcases (show j = 0 ∨ j = 1 ∨ j = 2 ∨ j = 3 ∨ j = 4 by omega) with rfl | rfl | rfl | rfl | rfl <;> rfl) (Nat.le_of_ble_eq_true rfl) (Nat.le_of_ble_eq_true rfl) dX2_init_21 (fun q_3 H hH => ?_)
  refine W.widen (k := 3) (n := 509) (Nat.le_of_ble_eq_true rfl) (Nat.le_of_ble_eq_true rfl) ?_
  refine lv_dup hx hb dX2_init_24 rfl ?_
  have hH := hH.perm (List.perm_append_comm (l₁ := (([(a, .inr (2, [.ref q_1, .ref q_2, .null, .null, .int 0, .int 0, .int 0, .int 0, .int 0, .int 0, .int 0, .int 0, .int 0, .int 0, .int 0, .int 0]))] : va_W) ++ [(q_1, .inl (cI, 3, .inl (fun _ => 0)))] ++ [(q_2, .inl (cI, 501, .inl (fun _ => 0)))])) (l₂ := [(q_3, .inr (1, [.null, .null, .null, .int 0, .int 0]))]))
  refine kCN (wc := [(q_3, .inr (1, [.null, .null, .null, .int 0, .int 0]))]) (wr := (([(a, .inr (2, [.ref q_1, .ref q_2, .null, .null, .int 0, .int 0, .int 0, .int 0, .int 0, .int 0, .int 0, .int 0, .int 0, .int 0, .int 0, .int 0]))] : va_W) ++ [(q_1, .inl (cI, 3, .inl (fun _ => 0)))] ++ [(q_2, .inl (cI, 501, .inl (fun _ => 0)))])) (va_runIN (As := []) (rest := [.ref q_3, .ref a]) ⟨hx, hb, hml, hown, hts⟩ (c_X1_init l D cI cB q_3 _) ⟨va_cnB 0 hts gX2_init_X1_init_n20 rfl rfl rfl (nwm2_20 (args := args) hN) (hts (.initialized RX1) (by decide +kernel)) (by decide +kernel) ⟨Nat.le_of_ble_eq_true rfl, Nat.le_of_ble_eq_true rfl⟩, rfl, hts (.instanceMethod yX1_init) (by decide +kernel)⟩ (preS_pre hH.1.left hH.2.1.left hK hN) rfl rfl hl.1 rfl (lv_room (Nat.le_of_ble_eq_true rfl)) dX2_init_25 ⟨Nat.le_of_ble_eq_true rfl, Nat.le_of_ble_eq_true rfl⟩) hH hA (fun w1 H2 locs2 hp hG => ?_)
  obtain ⟨B_4, hb_B_4, hw_B_4⟩ := hp
  subst hw_B_4
  subst hb_B_4
  have hH : Hd D A0 s (([(a, .inr (2, [.ref q_1, .ref q_2, .null, .null, .int 0, .int 0, .int 0, .int 0, .int 0, .int 0, .int 0, .int 0, .int 0, .int 0, .int 0, .int 0]))] : va_W) ++ [(q_1, .inl (cI, 3, .inl (fun _ => 0)))] ++ [(q_2, .inl (cI, 501, .inl (fun _ => 0)))] ++ logW B_4 cI zT) H2 locs2 := hG.perm List.perm_append_comm
  refine W.widen (k := 6) (n := 1409) (Nat.le_of_ble_eq_true rfl) (Nat.le_of_ble_eq_true rfl) ?_
  refine x_putF (ws' := (([(a, .inr (2, [.ref q_1, .ref q_2, .ref (B_4 3), .null, .int 0, .int 0, .int 0, .int 0, .int 0, .int 0, .int 0, .int 0, .int 0, .int 0, .int 0, .int 0]))] : va_W) ++ [(q_1, .inl (cI, 3, .inl (fun _ => 0)))] ++ [(q_2, .inl (cI, 501, .inl (fun _ => 0)))] ++ logW B_4 cI zT)) (v := .ref (B_4 3)) (ty := (.object "PulseWheel$EventLog")) (C := RX2) (T := TX2) (N := 16) hx hb hts hi2 tyX2_ok nmX2 hown hK hH 0 rfl rfl 2 (by decide) (hts (.fieldLink RX2 21 "PulseWheel$Reader" "log" "LPulseWheel$EventLog;") (by decide +kernel)) rfl rfl hnm rfl rfl (rfl) (rfl) (Nat.le_of_ble_eq_true rfl) dX2_init_28 (rfl) (fun H locs hH => ?_)
  refine lv_aload_n hx hb dX2_init_31 rfl (lv_at hl 0 rfl) ?_
  refine x_newc (ci := 4) (fs := [.null, .int 0, .int 0]) (C := RX4) (T := TX4) (N := 3) hx hb hts hi4 tyX4_ok hown (hts (.classLink RX2 25 RX4) (by decide +kernel)) (hts (.instantiable RX4 3) (by decide +kernel)) (hts (.initialized RX4) (by decide +kernel)) hK hH hA rfl (fun j hj => by rcases (show j = 0 ∨ j = 1 ∨ j = 2 by omega) with rfl | rfl | rfl <;> rfl) (Nat.le_of_ble_eq_true rfl) (Nat.le_of_ble_eq_true rfl) dX2_init_32 (fun q_5 H hH => ?_)
  refine W.widen (k := 7) (n := 1412) (Nat.le_of_ble_eq_true rfl) (Nat.le_of_ble_eq_true rfl) ?_
  refine lv_dup hx hb dX2_init_35 rfl ?_
  have hH := hH.perm (List.perm_append_comm (l₁ := (([(a, .inr (2, [.ref q_1, .ref q_2, .ref (B_4 3), .null, .int 0, .int 0, .int 0, .int 0, .int 0, .int 0, .int 0, .int 0, .int 0, .int 0, .int 0, .int 0]))] : va_W) ++ [(q_1, .inl (cI, 3, .inl (fun _ => 0)))] ++ [(q_2, .inl (cI, 501, .inl (fun _ => 0)))] ++ logW B_4 cI zT)) (l₂ := [(q_5, .inr (4, [.null, .int 0, .int 0]))]))
  refine kCN (wc := [(q_5, .inr (4, [.null, .int 0, .int 0]))]) (wr := (([(a, .inr (2, [.ref q_1, .ref q_2, .ref (B_4 3), .null, .int 0, .int 0, .int 0, .int 0, .int 0, .int 0, .int 0, .int 0, .int 0, .int 0, .int 0, .int 0]))] : va_W) ++ [(q_1, .inl (cI, 3, .inl (fun _ => 0)))] ++ [(q_2, .inl (cI, 501, .inl (fun _ => 0)))] ++ logW B_4 cI zT)) (va_runIN (As := []) (rest := [.ref q_5, .ref a]) ⟨hx, hb, hml, hown, hts⟩ (c_X4_init l D cI cB q_5 _) ⟨va_cnB 0 hts gX2_init_X4_init_n27 rfl rfl rfl (nwm2_27 (args := args) hN) (hts (.initialized RX4) (by decide +kernel)) (by decide +kernel) ⟨Nat.le_of_ble_eq_true rfl, Nat.le_of_ble_eq_true rfl⟩, rfl, hts (.instanceMethod yX4_init) (by decide +kernel)⟩ (preS_pre hH.1.left hH.2.1.left hK hN) rfl rfl hl.1 rfl (lv_room (Nat.le_of_ble_eq_true rfl)) dX2_init_36 ⟨Nat.le_of_ble_eq_true rfl, Nat.le_of_ble_eq_true rfl⟩) hH hA (fun w1 H2 locs2 hp hG => ?_)
  obtain ⟨B_6, hb_B_6, hw_B_6⟩ := hp
  subst hw_B_6
  subst hb_B_6
  have hH : Hd D A0 s (([(a, .inr (2, [.ref q_1, .ref q_2, .ref (B_4 3), .null, .int 0, .int 0, .int 0, .int 0, .int 0, .int 0, .int 0, .int 0, .int 0, .int 0, .int 0, .int 0]))] : va_W) ++ [(q_1, .inl (cI, 3, .inl (fun _ => 0)))] ++ [(q_2, .inl (cI, 501, .inl (fun _ => 0)))] ++ logW B_4 cI zT ++ teethW B_6 cI zT) H2 locs2 := hG.perm List.perm_append_comm
  refine W.widen (k := 8) (n := 1476) (Nat.le_of_ble_eq_true rfl) (Nat.le_of_ble_eq_true rfl) ?_
  refine x_putF (ws' := (([(a, .inr (2, [.ref q_1, .ref q_2, .ref (B_4 3), .ref (B_6 7), .int 0, .int 0, .int 0, .int 0, .int 0, .int 0, .int 0, .int 0, .int 0, .int 0, .int 0, .int 0]))] : va_W) ++ [(q_1, .inl (cI, 3, .inl (fun _ => 0)))] ++ [(q_2, .inl (cI, 501, .inl (fun _ => 0)))] ++ logW B_4 cI zT ++ teethW B_6 cI zT)) (v := .ref (B_6 7)) (ty := (.object "PulseWheel$Teeth")) (C := RX2) (T := TX2) (N := 16) hx hb hts hi2 tyX2_ok nmX2 hown hK hH 0 rfl rfl 3 (by decide) (hts (.fieldLink RX2 28 "PulseWheel$Reader" "teeth" "LPulseWheel$Teeth;") (by decide +kernel)) rfl rfl hnm rfl rfl (rfl) (rfl) (Nat.le_of_ble_eq_true rfl) dX2_init_39 (rfl) (fun H locs hH => ?_)
  refine lv_aload_n hx hb dX2_init_42 rfl (lv_at hl 0 rfl) ?_
  refine lv_iconst (v := 1) hx hb dX2_init_43 (by decide) ?_
  refine x_put (ws' := (([(a, .inr (2, [.ref q_1, .ref q_2, .ref (B_4 3), .ref (B_6 7), .int 1, .int 0, .int 0, .int 0, .int 0, .int 0, .int 0, .int 0, .int 0, .int 0, .int 0, .int 0]))] : va_W) ++ [(q_1, .inl (cI, 3, .inl (fun _ => 0)))] ++ [(q_2, .inl (cI, 501, .inl (fun _ => 0)))] ++ logW B_4 cI zT ++ teethW B_6 cI zT)) (v := .int 1) (ty := .int) (C := RX2) (T := TX2) (N := 16) hx hb hts hi2 tyX2_ok nmX2 hown hK hH 0 rfl rfl 4 (by decide) (hts (.fieldLink RX2 32 "PulseWheel$Reader" "holdTicks" "I") (by decide +kernel)) rfl rfl rfl (rfl) (rfl) (Nat.le_of_ble_eq_true rfl) dX2_init_44 (rfl) (fun H locs hH => ?_)
  refine lv_aload_n hx hb dX2_init_47 rfl (lv_at hl 0 rfl) ?_
  refine lv_bipush (v := 16) hx hb dX2_init_48 (by decide) ?_
  refine x_put (ws' := (([(a, .inr (2, [.ref q_1, .ref q_2, .ref (B_4 3), .ref (B_6 7), .int 1, .int 16, .int 0, .int 0, .int 0, .int 0, .int 0, .int 0, .int 0, .int 0, .int 0, .int 0]))] : va_W) ++ [(q_1, .inl (cI, 3, .inl (fun _ => 0)))] ++ [(q_2, .inl (cI, 501, .inl (fun _ => 0)))] ++ logW B_4 cI zT ++ teethW B_6 cI zT)) (v := .int 16) (ty := .int) (C := RX2) (T := TX2) (N := 16) hx hb hts hi2 tyX2_ok nmX2 hown hK hH 0 rfl rfl 5 (by decide) (hts (.fieldLink RX2 36 "PulseWheel$Reader" "turnCounts" "I") (by decide +kernel)) rfl rfl rfl (rfl) (rfl) (Nat.le_of_ble_eq_true rfl) dX2_init_50 (rfl) (fun H locs hH => ?_)
  exact hE _ _ _ _ _ hH (⟨(fun k : Nat => if k = 0 then a else if k = 1 then q_1 else if k = 2 then q_2 else if k = 3 then B_4 3 else if k = 4 then B_4 4 else if k = 5 then B_4 5 else if k = 6 then B_4 6 else if k = 7 then B_6 7 else B_6 8), rfl, rfl⟩) dX2_init_53

def rm_X0_init : Room := { frames := 3, cells := 18, slots := 2984, locals := 60 }
set_option maxHeartbeats 1000000 in
set_option maxRecDepth 100000 in
theorem c_X0_init (l : Launch) (D : va_G) (cI cB : ClassId) (a : Nat) : CN l D cI cB yX0_init wsX0_init rm_X0_init [.ref a] ([(a, .inr (0, [.null, .null, .int 0, .int 0]))] : va_W) 18 2984 (fun w1 => ∃ A1 A2 : Nat → Nat, w1 = benchW a A1 A2 cI 0 (-1) newT newT) := by
  refine CN.of (cc := cX0_init) (maxL := 1)  (by decide +kernel) rfl (Nat.le_of_ble_eq_true rfl) ?_
  intro p e s m args below meth c ls A0 Q hT hH hA hl hE
  obtain ⟨hx, hb, hr, hlocks, hnm, hml, hown, hts, hK, hN⟩ := hT
  have hl : lv_has ls 1 [(0, .ref a)] := hl
  have hi0 : ∀ w ∈ wsX00, w ∈ wsX0_init := by decide +kernel
  have hi2 : ∀ w ∈ wsX20, w ∈ wsX0_init := by decide +kernel
  refine lv_aload_n hx hb dX0_init_0 rfl (lv_at hl 0 rfl) ?_
  refine W.objInit hx hb hown (hts (.methodLink RX0 3 objectInit) (by decide +kernel)) (hts (.instanceMethod objectInit) (by decide +kernel)) (hts (.code objectInit ⟨#[0xb1]⟩ 1 none) (by decide +kernel)) rfl (by rw [hml]; exact hl.1) rfl dX0_init_1 (Nat.le_of_ble_eq_true rfl) (Nat.le_of_ble_eq_true rfl) ?_
  refine W.eq (g2 := F0 m 4 ls []) rfl ?_
  refine lv_aload_n hx hb dX0_init_4 rfl (lv_at hl 0 rfl) ?_
  refine x_newc (ci := 2) (fs := [.null, .null, .null, .null, .int 0, .int 0, .int 0, .int 0, .int 0, .int 0, .int 0, .int 0, .int 0, .int 0, .int 0, .int 0]) (C := RX2) (T := TX2) (N := 16) hx hb hts hi2 tyX2_ok hown (hts (.classLink RX0 9 RX2) (by decide +kernel)) (hts (.instantiable RX2 16) (by decide +kernel)) (hts (.initialized RX2) (by decide +kernel)) hK hH hA rfl (fun j hj => by rcases (show j = 0 ∨ j = 1 ∨ j = 2 ∨ j = 3 ∨ j = 4 ∨ j = 5 ∨ j = 6 ∨ j = 7 ∨ j = 8 ∨ j = 9 ∨ j = 10 ∨ j = 11 ∨ j = 12 ∨ j = 13 ∨ j = 14 ∨ j = 15 by omega) with rfl | rfl | rfl | rfl | rfl | rfl | rfl | rfl | rfl | rfl | rfl | rfl | rfl | rfl | rfl | rfl <;> rfl) (Nat.le_of_ble_eq_true rfl) (Nat.le_of_ble_eq_true rfl) dX0_init_5 (fun q_1 H hH => ?_)
  refine W.widen (k := 1) (n := 16) (Nat.le_of_ble_eq_true rfl) (Nat.le_of_ble_eq_true rfl) ?_
  refine lv_dup hx hb dX0_init_8 rfl ?_
  have hH := hH.perm (List.perm_append_comm (l₁ := ([(a, .inr (0, [.null, .null, .int 0, .int 0]))] : va_W)) (l₂ := [(q_1, .inr (2, [.null, .null, .null, .null, .int 0, .int 0, .int 0, .int 0, .int 0, .int 0, .int 0, .int 0, .int 0, .int 0, .int 0, .int 0]))]))
  refine kCN (wc := [(q_1, .inr (2, [.null, .null, .null, .null, .int 0, .int 0, .int 0, .int 0, .int 0, .int 0, .int 0, .int 0, .int 0, .int 0, .int 0, .int 0]))]) (wr := ([(a, .inr (0, [.null, .null, .int 0, .int 0]))] : va_W)) (va_runIN (As := []) (rest := [.ref q_1, .ref a]) ⟨hx, hb, hml, hown, hts⟩ (c_X2_init l D cI cB q_1 _) ⟨va_cnB 0 hts gX0_init_X2_init_n11 rfl rfl rfl (nwm0_11 (args := args) hN) (hts (.initialized RX2) (by decide +kernel)) (by decide +kernel) ⟨Nat.le_of_ble_eq_true rfl, Nat.le_of_ble_eq_true rfl⟩, rfl, hts (.instanceMethod yX2_init) (by decide +kernel)⟩ (preS_pre hH.1.left hH.2.1.left hK hN) rfl rfl hl.1 rfl (lv_room (Nat.le_of_ble_eq_true rfl)) dX0_init_9 ⟨Nat.le_of_ble_eq_true rfl, Nat.le_of_ble_eq_true rfl⟩) hH hA (fun w1 H2 locs2 hp hG => ?_)
  obtain ⟨B_2, hb_B_2, hw_B_2⟩ := hp
  subst hw_B_2
  subst hb_B_2
  have hH : Hd D A0 s (([(a, .inr (0, [.null, .null, .int 0, .int 0]))] : va_W) ++ readerW B_2 cI newT) H2 locs2 := hG.perm List.perm_append_comm
  refine W.widen (k := 9) (n := 1492) (Nat.le_of_ble_eq_true rfl) (Nat.le_of_ble_eq_true rfl) ?_
  refine x_putF (ws' := (([(a, .inr (0, [.ref (B_2 0), .null, .int 0, .int 0]))] : va_W) ++ readerW B_2 cI newT)) (v := .ref (B_2 0)) (ty := (.object "PulseWheel$Reader")) (C := RX0) (T := TX0) (N := 4) hx hb hts hi0 tyX0_ok nmX0 hown hK hH 0 rfl rfl 0 (by decide) (hts (.fieldLink RX0 12 "PulseWheel$Bench" "first" "LPulseWheel$Reader;") (by decide +kernel)) rfl rfl hnm rfl rfl (rfl) (rfl) (Nat.le_of_ble_eq_true rfl) dX0_init_12 (rfl) (fun H locs hH => ?_)
  refine lv_aload_n hx hb dX0_init_15 rfl (lv_at hl 0 rfl) ?_
  refine x_newc (ci := 2) (fs := [.null, .null, .null, .null, .int 0, .int 0, .int 0, .int 0, .int 0, .int 0, .int 0, .int 0, .int 0, .int 0, .int 0, .int 0]) (C := RX2) (T := TX2) (N := 16) hx hb hts hi2 tyX2_ok hown (hts (.classLink RX0 9 RX2) (by decide +kernel)) (hts (.instantiable RX2 16) (by decide +kernel)) (hts (.initialized RX2) (by decide +kernel)) hK hH hA rfl (fun j hj => by rcases (show j = 0 ∨ j = 1 ∨ j = 2 ∨ j = 3 ∨ j = 4 ∨ j = 5 ∨ j = 6 ∨ j = 7 ∨ j = 8 ∨ j = 9 ∨ j = 10 ∨ j = 11 ∨ j = 12 ∨ j = 13 ∨ j = 14 ∨ j = 15 by omega) with rfl | rfl | rfl | rfl | rfl | rfl | rfl | rfl | rfl | rfl | rfl | rfl | rfl | rfl | rfl | rfl <;> rfl) (Nat.le_of_ble_eq_true rfl) (Nat.le_of_ble_eq_true rfl) dX0_init_16 (fun q_3 H hH => ?_)
  refine W.widen (k := 10) (n := 1508) (Nat.le_of_ble_eq_true rfl) (Nat.le_of_ble_eq_true rfl) ?_
  refine lv_dup hx hb dX0_init_19 rfl ?_
  have hH := hH.perm (List.perm_append_comm (l₁ := (([(a, .inr (0, [.ref (B_2 0), .null, .int 0, .int 0]))] : va_W) ++ readerW B_2 cI newT)) (l₂ := [(q_3, .inr (2, [.null, .null, .null, .null, .int 0, .int 0, .int 0, .int 0, .int 0, .int 0, .int 0, .int 0, .int 0, .int 0, .int 0, .int 0]))]))
  refine kCN (wc := [(q_3, .inr (2, [.null, .null, .null, .null, .int 0, .int 0, .int 0, .int 0, .int 0, .int 0, .int 0, .int 0, .int 0, .int 0, .int 0, .int 0]))]) (wr := (([(a, .inr (0, [.ref (B_2 0), .null, .int 0, .int 0]))] : va_W) ++ readerW B_2 cI newT)) (va_runIN (As := []) (rest := [.ref q_3, .ref a]) ⟨hx, hb, hml, hown, hts⟩ (c_X2_init l D cI cB q_3 _) ⟨va_cnB 0 hts gX0_init_X2_init_n11 rfl rfl rfl (nwm0_11 (args := args) hN) (hts (.initialized RX2) (by decide +kernel)) (by decide +kernel) ⟨Nat.le_of_ble_eq_true rfl, Nat.le_of_ble_eq_true rfl⟩, rfl, hts (.instanceMethod yX2_init) (by decide +kernel)⟩ (preS_pre hH.1.left hH.2.1.left hK hN) rfl rfl hl.1 rfl (lv_room (Nat.le_of_ble_eq_true rfl)) dX0_init_20 ⟨Nat.le_of_ble_eq_true rfl, Nat.le_of_ble_eq_true rfl⟩) hH hA (fun w1 H2 locs2 hp hG => ?_)
  obtain ⟨B_4, hb_B_4, hw_B_4⟩ := hp
  subst hw_B_4
  subst hb_B_4
  have hH : Hd D A0 s (([(a, .inr (0, [.ref (B_2 0), .null, .int 0, .int 0]))] : va_W) ++ readerW B_2 cI newT ++ readerW B_4 cI newT) H2 locs2 := hG.perm List.perm_append_comm
  refine W.widen (k := 18) (n := 2984) (Nat.le_of_ble_eq_true rfl) (Nat.le_of_ble_eq_true rfl) ?_
  refine x_putF (ws' := (([(a, .inr (0, [.ref (B_2 0), .ref (B_4 0), .int 0, .int 0]))] : va_W) ++ readerW B_2 cI newT ++ readerW B_4 cI newT)) (v := .ref (B_4 0)) (ty := (.object "PulseWheel$Reader")) (C := RX0) (T := TX0) (N := 4) hx hb hts hi0 tyX0_ok nmX0 hown hK hH 0 rfl rfl 1 (by decide) (hts (.fieldLink RX0 18 "PulseWheel$Bench" "second" "LPulseWheel$Reader;") (by decide +kernel)) rfl rfl hnm rfl rfl (rfl) (rfl) (Nat.le_of_ble_eq_true rfl) dX0_init_23 (rfl) (fun H locs hH => ?_)
  refine lv_aload_n hx hb dX0_init_26 rfl (lv_at hl 0 rfl) ?_
  refine lv_iconst (v := -1) hx hb dX0_init_27 (by decide) ?_
  refine x_put (ws' := (([(a, .inr (0, [.ref (B_2 0), .ref (B_4 0), .int 0, .int (-1)]))] : va_W) ++ readerW B_2 cI newT ++ readerW B_4 cI newT)) (v := .int (-1)) (ty := .int) (C := RX0) (T := TX0) (N := 4) hx hb hts hi0 tyX0_ok nmX0 hown hK hH 0 rfl rfl 3 (by decide) (hts (.fieldLink RX0 21 "PulseWheel$Bench" "apartSince" "I") (by decide +kernel)) rfl rfl rfl (rfl) (rfl) (Nat.le_of_ble_eq_true rfl) dX0_init_28 (rfl) (fun H locs hH => ?_)
  exact hE _ _ _ _ _ hH (⟨B_2, B_4, rfl⟩) dX0_init_31

def rm_X3_init : Room := { frames := 1, cells := 0, slots := 0, locals := 20 }
set_option maxHeartbeats 1000000 in
set_option maxRecDepth 100000 in
theorem c_X3_init (l : Launch) (D : va_G) (cI cB : ClassId) (a : Nat) : CN l D cI cB yX3_init wsX3_init rm_X3_init [.ref a] ([(a, .inr (3, [.int 0, .int 0, .int 0, .int 0]))] : va_W) 0 0 (fun w1 => w1 = spanW a 0 1 1 0) := by
  refine CN.of (cc := cX3_init) (maxL := 1)  (by decide +kernel) rfl (Nat.le_of_ble_eq_true rfl) ?_
  intro p e s m args below meth c ls A0 Q hT hH hA hl hE
  obtain ⟨hx, hb, hr, hlocks, hnm, hml, hown, hts, hK, hN⟩ := hT
  have hl : lv_has ls 1 [(0, .ref a)] := hl
  have hi3 : ∀ w ∈ wsX30, w ∈ wsX3_init := by decide +kernel
  refine lv_aload_n hx hb dX3_init_0 rfl (lv_at hl 0 rfl) ?_
  refine W.objInit hx hb hown (hts (.methodLink RX3 3 objectInit) (by decide +kernel)) (hts (.instanceMethod objectInit) (by decide +kernel)) (hts (.code objectInit ⟨#[0xb1]⟩ 1 none) (by decide +kernel)) rfl (by rw [hml]; exact hl.1) rfl dX3_init_1 (Nat.le_of_ble_eq_true rfl) (Nat.le_of_ble_eq_true rfl) ?_
  refine W.eq (g2 := F0 m 4 ls []) rfl ?_
  refine lv_aload_n hx hb dX3_init_4 rfl (lv_at hl 0 rfl) ?_
  refine lv_iconst (v := 0) hx hb dX3_init_5 (by decide) ?_
  refine x_put (ws' := ([(a, .inr (3, [.int 0, .int 0, .int 0, .int 0]))] : va_W)) (v := .int 0) (ty := .int) (C := RX3) (T := TX3) (N := 4) hx hb hts hi3 tyX3_ok nmX3 hown hK hH 0 rfl rfl 0 (by decide) (hts (.fieldLink RX3 9 "PulseWheel$Span" "leastTop" "I") (by decide +kernel)) rfl rfl rfl (rfl) (rfl) (Nat.le_of_ble_eq_true rfl) dX3_init_6 (rfl) (fun H locs hH => ?_)
  refine lv_aload_n hx hb dX3_init_9 rfl (lv_at hl 0 rfl) ?_
  refine lv_iconst (v := 1) hx hb dX3_init_10 (by decide) ?_
  refine x_put (ws' := ([(a, .inr (3, [.int 0, .int 1, .int 0, .int 0]))] : va_W)) (v := .int 1) (ty := .int) (C := RX3) (T := TX3) (N := 4) hx hb hts hi3 tyX3_ok nmX3 hown hK hH 0 rfl rfl 1 (by decide) (hts (.fieldLink RX3 15 "PulseWheel$Span" "leastBottom" "I") (by decide +kernel)) rfl rfl rfl (rfl) (rfl) (Nat.le_of_ble_eq_true rfl) dX3_init_11 (rfl) (fun H locs hH => ?_)
  refine lv_aload_n hx hb dX3_init_14 rfl (lv_at hl 0 rfl) ?_
  refine lv_iconst (v := 1) hx hb dX3_init_15 (by decide) ?_
  refine x_put (ws' := ([(a, .inr (3, [.int 0, .int 1, .int 1, .int 0]))] : va_W)) (v := .int 1) (ty := .int) (C := RX3) (T := TX3) (N := 4) hx hb hts hi3 tyX3_ok nmX3 hown hK hH 0 rfl rfl 2 (by decide) (hts (.fieldLink RX3 18 "PulseWheel$Span" "mostTop" "I") (by decide +kernel)) rfl rfl rfl (rfl) (rfl) (Nat.le_of_ble_eq_true rfl) dX3_init_16 (rfl) (fun H locs hH => ?_)
  refine lv_aload_n hx hb dX3_init_19 rfl (lv_at hl 0 rfl) ?_
  refine lv_iconst (v := 0) hx hb dX3_init_20 (by decide) ?_
  refine x_put (ws' := ([(a, .inr (3, [.int 0, .int 1, .int 1, .int 0]))] : va_W)) (v := .int 0) (ty := .int) (C := RX3) (T := TX3) (N := 4) hx hb hts hi3 tyX3_ok nmX3 hown hK hH 0 rfl rfl 3 (by decide) (hts (.fieldLink RX3 21 "PulseWheel$Span" "mostBottom" "I") (by decide +kernel)) rfl rfl rfl (rfl) (rfl) (Nat.le_of_ble_eq_true rfl) dX3_init_21 (rfl) (fun H locs hH => ?_)
  exact hE _ _ _ _ _ hH (rfl) dX3_init_24

def rm_X5_init : Room := { frames := 4, cells := 21, slots := 3492, locals := 80 }
set_option maxHeartbeats 1000000 in
set_option maxRecDepth 100000 in
theorem c_X5_init (l : Launch) (D : va_G) (cI cB : ClassId) (a : Nat) : CNO l D cI cB yX5_init wsX5_init rm_X5_init [.ref a] ([(a, .inr (5, [.null, .null, .null, .int 0]))] : va_W) 21 3492 (fun w1 => ∃ (P : Nat → Nat) (b : Nat) (A1 A2 : Nat → Nat), P 0 = a ∧ w1 = pwW P b A1 A2 cI cB 0 (fun _ => none) (fun _ => 0) 0 (-1) newT newT) := by
  refine CNO.of (cc := cX5_init) (maxL := 1)  (by decide +kernel) rfl (Nat.le_of_ble_eq_true rfl) ?_
  intro p e s m args below meth c ls A0 Q hT hH hA hl hE
  obtain ⟨hT, hO⟩ := hT
  obtain ⟨hx, hb, hr, hlocks, hnm, hml, hown, hts, hK, hN⟩ := hT
  have hl : lv_has ls 1 [(0, .ref a)] := hl
  have hi0 : ∀ w ∈ wsX00, w ∈ wsX5_init := by decide +kernel
  have hi5 : ∀ w ∈ wsX50, w ∈ wsX5_init := by decide +kernel
  refine lv_aload_n hx hb dX5_init_0 rfl (lv_at hl 0 rfl) ?_
  refine W.objInit hx hb hown (hts (.methodLink RX5 1 objectInit) (by decide +kernel)) (hts (.instanceMethod objectInit) (by decide +kernel)) (hts (.code objectInit ⟨#[0xb1]⟩ 1 none) (by decide +kernel)) rfl (by rw [hml]; exact hl.1) rfl dX5_init_1 (Nat.le_of_ble_eq_true rfl) (Nat.le_of_ble_eq_true rfl) ?_
  refine W.eq (g2 := F0 m 4 ls []) rfl ?_
  refine lv_aload_n hx hb dX5_init_4 rfl (lv_at hl 0 rfl) ?_
  refine x_newc (ci := 0) (fs := [.null, .null, .int 0, .int 0]) (C := RX0) (T := TX0) (N := 4) hx hb hts hi0 tyX0_ok hown (hts (.classLink RX5 7 RX0) (by decide +kernel)) (hts (.instantiable RX0 4) (by decide +kernel)) (hts (.initialized RX0) (by decide +kernel)) hK hH hA rfl (fun j hj => by rcases (show j = 0 ∨ j = 1 ∨ j = 2 ∨ j = 3 by omega) with rfl | rfl | rfl | rfl <;> rfl) (Nat.le_of_ble_eq_true rfl) (Nat.le_of_ble_eq_true rfl) dX5_init_5 (fun q_1 H hH => ?_)
  refine W.widen (k := 1) (n := 4) (Nat.le_of_ble_eq_true rfl) (Nat.le_of_ble_eq_true rfl) ?_
  refine lv_dup hx hb dX5_init_8 rfl ?_
  have hH := hH.perm (List.perm_append_comm (l₁ := ([(a, .inr (5, [.null, .null, .null, .int 0]))] : va_W)) (l₂ := [(q_1, .inr (0, [.null, .null, .int 0, .int 0]))]))
  refine kCN (wc := [(q_1, .inr (0, [.null, .null, .int 0, .int 0]))]) (wr := ([(a, .inr (5, [.null, .null, .null, .int 0]))] : va_W)) (va_runIN (As := []) (rest := [.ref q_1, .ref a]) ⟨hx, hb, hml, hown, hts⟩ (c_X0_init l D cI cB q_1 _) ⟨va_cnB 0 hts gX5_init_X0_init_n9 rfl rfl rfl (nwm5_9 (args := args) hN) (hts (.initialized RX0) (by decide +kernel)) (by decide +kernel) ⟨Nat.le_of_ble_eq_true rfl, Nat.le_of_ble_eq_true rfl⟩, rfl, hts (.instanceMethod yX0_init) (by decide +kernel)⟩ (preS_pre hH.1.left hH.2.1.left hK hN) rfl rfl hl.1 rfl (lv_room (Nat.le_of_ble_eq_true rfl)) dX5_init_9 ⟨Nat.le_of_ble_eq_true rfl, Nat.le_of_ble_eq_true rfl⟩) hH hA (fun w1 H2 locs2 hp hG => ?_)
  obtain ⟨B_2, B_2', hw_B_2⟩ := hp
  subst hw_B_2
  have hH : Hd D A0 s (([(a, .inr (5, [.null, .null, .null, .int 0]))] : va_W) ++ benchW q_1 B_2 B_2' cI 0 (-1) newT newT) H2 locs2 := hG.perm List.perm_append_comm
  refine W.widen (k := 19) (n := 2988) (Nat.le_of_ble_eq_true rfl) (Nat.le_of_ble_eq_true rfl) ?_
  refine x_putF (ws' := (([(a, .inr (5, [.ref q_1, .null, .null, .int 0]))] : va_W) ++ benchW q_1 B_2 B_2' cI 0 (-1) newT newT)) (v := .ref q_1) (ty := (.object "PulseWheel$Bench")) (C := RX5) (T := TX5) (N := 4) hx hb hts hi5 tyX5_ok nmX5 hown hK hH 0 rfl rfl 0 (by decide) (hts (.fieldLink RX5 10 "PulseWheel" "bench" "LPulseWheel$Bench;") (by decide +kernel)) rfl rfl hnm rfl rfl (rfl) (rfl) (Nat.le_of_ble_eq_true rfl) dX5_init_12 (rfl) (fun H locs hH => ?_)
  refine lv_aload_n hx hb dX5_init_15 rfl (lv_at hl 0 rfl) ?_
  refine lv_iconst (v := 4) hx hb dX5_init_16 (by decide) ?_
  refine x_newq (N := 4) hx hb hown (hts (.classLink RX5 7 "PulseWheel$Bench") (by decide +kernel)) hO hK hH hA (by decide) (by decide) (by decide) (Nat.le_of_ble_eq_true rfl) (Nat.le_of_ble_eq_true rfl) dX5_init_17 (fun q_3 H hH => ?_)
  refine W.widen (k := 20) (n := 2992) (Nat.le_of_ble_eq_true rfl) (Nat.le_of_ble_eq_true rfl) ?_
  refine x_putF (ws' := (([(a, .inr (5, [.ref q_1, .ref q_3, .null, .int 0]))] : va_W) ++ benchW q_1 B_2 B_2' cI 0 (-1) newT newT ++ [(q_3, .inl (cB, 4, .inr (.inr (.inr (.inr (fun _ => none))))))])) (v := .ref q_3) (ty := (.array (.object "PulseWheel$Bench"))) (C := RX5) (T := TX5) (N := 4) hx hb hts hi5 tyX5_ok nmX5 hown hK hH 0 rfl rfl 1 (by decide) (hts (.fieldLink RX5 16 "PulseWheel" "images" "[LPulseWheel$Bench;") (by decide +kernel)) rfl rfl hnm rfl rfl (rfl) (rfl) (Nat.le_of_ble_eq_true rfl) dX5_init_20 (rfl) (fun H locs hH => ?_)
  refine lv_aload_n hx hb dX5_init_23 rfl (lv_at hl 0 rfl) ?_
  refine lv_sipush (v := 500) hx hb dX5_init_24 (by decide) ?_
  refine x_newa (N := 500) hx hb (hts (.arrayClass .int) (by decide +kernel)) hK hH hA (by decide) (by decide) (by decide) (Nat.le_of_ble_eq_true rfl) (Nat.le_of_ble_eq_true rfl) dX5_init_27 (fun q_4 H hH => ?_)
  refine W.widen (k := 21) (n := 3492) (Nat.le_of_ble_eq_true rfl) (Nat.le_of_ble_eq_true rfl) ?_
  refine x_putF (ws' := (([(a, .inr (5, [.ref q_1, .ref q_3, .ref q_4, .int 0]))] : va_W) ++ benchW q_1 B_2 B_2' cI 0 (-1) newT newT ++ [(q_3, .inl (cB, 4, .inr (.inr (.inr (.inr (fun _ => none))))))] ++ [(q_4, .inl (cI, 500, .inl (fun _ => 0)))])) (v := .ref q_4) (ty := (.array .int)) (C := RX5) (T := TX5) (N := 4) hx hb hts hi5 tyX5_ok nmX5 hown hK hH 0 rfl rfl 2 (by decide) (hts (.fieldLink RX5 20 "PulseWheel" "tape" "[I") (by decide +kernel)) rfl rfl hnm rfl rfl (rfl) (rfl) (Nat.le_of_ble_eq_true rfl) dX5_init_29 (rfl) (fun H locs hH => ?_)
  have hH : Hd D A0 s (([(a, .inr (5, [.ref q_1, .ref q_3, .ref q_4, .int 0]))] ++ [(q_3, .inl (cB, 4, .inr (.inr (.inr (.inr (fun _ => none))))))] ++ [(q_4, .inl (cI, 500, .inl (fun _ => 0)))]) ++ benchW q_1 B_2 B_2' cI 0 (-1) newT newT) H locs := hH.perm (perm_pw _ _ _ _)
  exact hE _ _ _ _ _ hH (⟨(fun k : Nat => if k = 0 then a else if k = 1 then q_3 else q_4), q_1, B_2, B_2', rfl, rfl⟩) dX5_init_32

def rm_X6_init : Room := { frames := 1, cells := 5, slots := 17108, locals := 20 }
set_option maxHeartbeats 1000000 in
set_option maxRecDepth 100000 in
theorem c_X6_init (l : Launch) (D : va_G) (cI cB : ClassId) (a : Nat) : CN l D cI cB yX6_init wsX6_init rm_X6_init [.ref a] ([(a, .inr (6, [.null, .null, .null, .null, .int 0, .int 0, .int 0, .null, .int 0]))] : va_W) 5 17108 (fun w1 => ∃ A : Nat → Nat, A 0 = a ∧ w1 = modelW A cI newM) := by
  refine CN.of (cc := cX6_init) (maxL := 2)  (by decide +kernel) rfl (Nat.le_of_ble_eq_true rfl) ?_
  intro p e s m args below meth c ls A0 Q hT hH hA hl hE
  obtain ⟨hx, hb, hr, hlocks, hnm, hml, hown, hts, hK, hN⟩ := hT
  have hl : lv_has ls 2 [(0, .ref a)] := hl
  have hi6 : ∀ w ∈ wsX60, w ∈ wsX6_init := by decide +kernel
  refine lv_aload_n hx hb dX6_init_0 rfl (lv_at hl 0 rfl) ?_
  refine W.objInit hx hb hown (hts (.methodLink RX6 1 objectInit) (by decide +kernel)) (hts (.instanceMethod objectInit) (by decide +kernel)) (hts (.code objectInit ⟨#[0xb1]⟩ 1 none) (by decide +kernel)) rfl (by rw [hml]; exact hl.1) rfl dX6_init_1 (Nat.le_of_ble_eq_true rfl) (Nat.le_of_ble_eq_true rfl) ?_
  refine W.eq (g2 := F0 m 4 ls []) rfl ?_
  refine lv_aload_n hx hb dX6_init_4 rfl (lv_at hl 0 rfl) ?_
  refine lv_sipush (v := 3020) hx hb dX6_init_5 (by decide) ?_
  refine x_newa (N := 3020) hx hb (hts (.arrayClass .int) (by decide +kernel)) hK hH hA (by decide) (by decide) (by decide) (Nat.le_of_ble_eq_true rfl) (Nat.le_of_ble_eq_true rfl) dX6_init_8 (fun q_1 H hH => ?_)
  refine W.widen (k := 1) (n := 3020) (Nat.le_of_ble_eq_true rfl) (Nat.le_of_ble_eq_true rfl) ?_
  refine x_putF (ws' := (([(a, .inr (6, [.ref q_1, .null, .null, .null, .int 0, .int 0, .int 0, .null, .int 0]))] : va_W) ++ [(q_1, .inl (cI, 3020, .inl (fun _ => 0)))])) (v := .ref q_1) (ty := (.array .int)) (C := RX6) (T := TX6) (N := 9) hx hb hts hi6 tyX6_ok nmX6 hown hK hH 0 rfl rfl 0 (by decide) (hts (.fieldLink RX6 7 "PulseWheelModel" "now" "[I") (by decide +kernel)) rfl rfl hnm rfl rfl (rfl) (rfl) (Nat.le_of_ble_eq_true rfl) dX6_init_10 (rfl) (fun H locs hH => ?_)
  refine lv_aload_n hx hb dX6_init_13 rfl (lv_at hl 0 rfl) ?_
  refine lv_sipush (v := 12080) hx hb dX6_init_14 (by decide) ?_
  refine x_newa (N := 12080) hx hb (hts (.arrayClass .int) (by decide +kernel)) hK hH hA (by decide) (by decide) (by decide) (Nat.le_of_ble_eq_true rfl) (Nat.le_of_ble_eq_true rfl) dX6_init_17 (fun q_2 H hH => ?_)
  refine W.widen (k := 2) (n := 15100) (Nat.le_of_ble_eq_true rfl) (Nat.le_of_ble_eq_true rfl) ?_
  refine x_putF (ws' := (([(a, .inr (6, [.ref q_1, .ref q_2, .null, .null, .int 0, .int 0, .int 0, .null, .int 0]))] : va_W) ++ [(q_1, .inl (cI, 3020, .inl (fun _ => 0)))] ++ [(q_2, .inl (cI, 12080, .inl (fun _ => 0)))])) (v := .ref q_2) (ty := (.array .int)) (C := RX6) (T := TX6) (N := 9) hx hb hts hi6 tyX6_ok nmX6 hown hK hH 0 rfl rfl 1 (by decide) (hts (.fieldLink RX6 13 "PulseWheelModel" "images" "[I") (by decide +kernel)) rfl rfl hnm rfl rfl (rfl) (rfl) (Nat.le_of_ble_eq_true rfl) dX6_init_19 (rfl) (fun H locs hH => ?_)
  refine lv_aload_n hx hb dX6_init_22 rfl (lv_at hl 0 rfl) ?_
  refine lv_iconst (v := 4) hx hb dX6_init_23 (by decide) ?_
  refine x_newa (N := 4) hx hb (hts (.arrayClass .int) (by decide +kernel)) hK hH hA (by decide) (by decide) (by decide) (Nat.le_of_ble_eq_true rfl) (Nat.le_of_ble_eq_true rfl) dX6_init_24 (fun q_3 H hH => ?_)
  refine W.widen (k := 3) (n := 15104) (Nat.le_of_ble_eq_true rfl) (Nat.le_of_ble_eq_true rfl) ?_
  refine x_putF (ws' := (([(a, .inr (6, [.ref q_1, .ref q_2, .ref q_3, .null, .int 0, .int 0, .int 0, .null, .int 0]))] : va_W) ++ [(q_1, .inl (cI, 3020, .inl (fun _ => 0)))] ++ [(q_2, .inl (cI, 12080, .inl (fun _ => 0)))] ++ [(q_3, .inl (cI, 4, .inl (fun _ => 0)))])) (v := .ref q_3) (ty := (.array .int)) (C := RX6) (T := TX6) (N := 9) hx hb hts hi6 tyX6_ok nmX6 hown hK hH 0 rfl rfl 2 (by decide) (hts (.fieldLink RX6 16 "PulseWheelModel" "imageTicks" "[I") (by decide +kernel)) rfl rfl hnm rfl rfl (rfl) (rfl) (Nat.le_of_ble_eq_true rfl) dX6_init_26 (rfl) (fun H locs hH => ?_)
  refine lv_aload_n hx hb dX6_init_29 rfl (lv_at hl 0 rfl) ?_
  refine lv_iconst (v := 4) hx hb dX6_init_30 (by decide) ?_
  refine x_newa (N := 4) hx hb (hts (.arrayClass .int) (by decide +kernel)) hK hH hA (by decide) (by decide) (by decide) (Nat.le_of_ble_eq_true rfl) (Nat.le_of_ble_eq_true rfl) dX6_init_31 (fun q_4 H hH => ?_)
  refine W.widen (k := 4) (n := 15108) (Nat.le_of_ble_eq_true rfl) (Nat.le_of_ble_eq_true rfl) ?_
  refine x_putF (ws' := (([(a, .inr (6, [.ref q_1, .ref q_2, .ref q_3, .ref q_4, .int 0, .int 0, .int 0, .null, .int 0]))] : va_W) ++ [(q_1, .inl (cI, 3020, .inl (fun _ => 0)))] ++ [(q_2, .inl (cI, 12080, .inl (fun _ => 0)))] ++ [(q_3, .inl (cI, 4, .inl (fun _ => 0)))] ++ [(q_4, .inl (cI, 4, .inl (fun _ => 0)))])) (v := .ref q_4) (ty := (.array .int)) (C := RX6) (T := TX6) (N := 9) hx hb hts hi6 tyX6_ok nmX6 hown hK hH 0 rfl rfl 3 (by decide) (hts (.fieldLink RX6 19 "PulseWheelModel" "imageApart" "[I") (by decide +kernel)) rfl rfl hnm rfl rfl (rfl) (rfl) (Nat.le_of_ble_eq_true rfl) dX6_init_33 (rfl) (fun H locs hH => ?_)
  refine lv_aload_n hx hb dX6_init_36 rfl (lv_at hl 0 rfl) ?_
  refine lv_iconst (v := -1) hx hb dX6_init_37 (by decide) ?_
  refine x_put (ws' := (([(a, .inr (6, [.ref q_1, .ref q_2, .ref q_3, .ref q_4, .int 0, .int (-1), .int 0, .null, .int 0]))] : va_W) ++ [(q_1, .inl (cI, 3020, .inl (fun _ => 0)))] ++ [(q_2, .inl (cI, 12080, .inl (fun _ => 0)))] ++ [(q_3, .inl (cI, 4, .inl (fun _ => 0)))] ++ [(q_4, .inl (cI, 4, .inl (fun _ => 0)))])) (v := .int (-1)) (ty := .int) (C := RX6) (T := TX6) (N := 9) hx hb hts hi6 tyX6_ok nmX6 hown hK hH 0 rfl rfl 5 (by decide) (hts (.fieldLink RX6 22 "PulseWheelModel" "apart" "I") (by decide +kernel)) rfl rfl rfl (rfl) (rfl) (Nat.le_of_ble_eq_true rfl) dX6_init_38 (rfl) (fun H locs hH => ?_)
  refine lv_aload_n hx hb dX6_init_41 rfl (lv_at hl 0 rfl) ?_
  refine lv_sipush (v := 2000) hx hb dX6_init_42 (by decide) ?_
  refine x_newa (N := 2000) hx hb (hts (.arrayClass .int) (by decide +kernel)) hK hH hA (by decide) (by decide) (by decide) (Nat.le_of_ble_eq_true rfl) (Nat.le_of_ble_eq_true rfl) dX6_init_45 (fun q_5 H hH => ?_)
  refine W.widen (k := 5) (n := 17108) (Nat.le_of_ble_eq_true rfl) (Nat.le_of_ble_eq_true rfl) ?_
  refine x_putF (ws' := (([(a, .inr (6, [.ref q_1, .ref q_2, .ref q_3, .ref q_4, .int 0, .int (-1), .int 0, .ref q_5, .int 0]))] : va_W) ++ [(q_1, .inl (cI, 3020, .inl (fun _ => 0)))] ++ [(q_2, .inl (cI, 12080, .inl (fun _ => 0)))] ++ [(q_3, .inl (cI, 4, .inl (fun _ => 0)))] ++ [(q_4, .inl (cI, 4, .inl (fun _ => 0)))] ++ [(q_5, .inl (cI, 2000, .inl (fun _ => 0)))])) (v := .ref q_5) (ty := (.array .int)) (C := RX6) (T := TX6) (N := 9) hx hb hts hi6 tyX6_ok nmX6 hown hK hH 0 rfl rfl 7 (by decide) (hts (.fieldLink RX6 26 "PulseWheelModel" "tape" "[I") (by decide +kernel)) rfl rfl hnm rfl rfl (rfl) (rfl) (Nat.le_of_ble_eq_true rfl) dX6_init_47 (rfl) (fun H locs hH => ?_)
  refine lv_iconst (v := 0) hx hb dX6_init_50 (by decide) ?_
  refine lv_istore_n (lv' := [(1, .int 0), (0, .ref a)]) hx hb dX6_init_51 rfl hl (by decide) rfl (fun ls hl => ?_)
  refine lv_iload_n hx hb dX6_init_52 rfl (lv_at hl 0 rfl) ?_
  refine lv_iconst (v := 2) hx hb dX6_init_53 (by decide) ?_
  refine lv_icmp_ge (tgt := 90) hx hb dX6_init_54 (by decide) (fun c_54 => ?_) (fun c_54 => ?_)
  · exact absurd c_54 (by decide)
  · skip
    refine lv_aload_n hx hb dX6_init_57 rfl (lv_at hl 1 rfl) ?_
    refine x_get (v := .ref q_1) (C := RX6) (T := TX6) (N := 9) hx hb hts hi6 hown hK hH.1 0 rfl rfl 0 (by decide) (hts (.fieldLink RX6 7 "PulseWheelModel" "now" "[I") (by decide +kernel)) rfl rfl dX6_init_58 ?_
    refine lv_sipush (v := 1510) hx hb dX6_init_61 (by decide) ?_
    refine lv_iload_n hx hb dX6_init_64 rfl (lv_at hl 0 rfl) ?_
    refine lv_imul hx hb dX6_init_65 ?_
    refine lv_iconst (v := 0) hx hb dX6_init_66 (by decide) ?_
    refine lv_iadd hx hb dX6_init_67 ?_
    refine lv_iconst (v := 1) hx hb dX6_init_68 (by decide) ?_
    have hq_6 := ix_in (i := ((1510 * 0) + 0)) (n := 3020) 0 (by decide) (by decide) (by decide)
    refine x_ist (ws' := (([(a, .inr (6, [.ref q_1, .ref q_2, .ref q_3, .ref q_4, .int 0, .int (-1), .int 0, .ref q_5, .int 0]))] : va_W) ++ [(q_1, .inl (cI, 3020, .inl (upd (fun _ => 0) 0 1)))] ++ [(q_2, .inl (cI, 12080, .inl (fun _ => 0)))] ++ [(q_3, .inl (cI, 4, .inl (fun _ => 0)))] ++ [(q_4, .inl (cI, 4, .inl (fun _ => 0)))] ++ [(q_5, .inl (cI, 2000, .inl (fun _ => 0)))])) hx hb hK hH 1 rfl hq_6.1 hq_6.2 dX6_init_69 (rfl) (fun H locs hH => ?_)
    refine lv_aload_n hx hb dX6_init_70 rfl (lv_at hl 1 rfl) ?_
    refine x_get (v := .ref q_1) (C := RX6) (T := TX6) (N := 9) hx hb hts hi6 hown hK hH.1 0 rfl rfl 0 (by decide) (hts (.fieldLink RX6 7 "PulseWheelModel" "now" "[I") (by decide +kernel)) rfl rfl dX6_init_71 ?_
    refine lv_sipush (v := 1510) hx hb dX6_init_74 (by decide) ?_
    refine lv_iload_n hx hb dX6_init_77 rfl (lv_at hl 0 rfl) ?_
    refine lv_imul hx hb dX6_init_78 ?_
    refine lv_iconst (v := 1) hx hb dX6_init_79 (by decide) ?_
    refine lv_iadd hx hb dX6_init_80 ?_
    refine lv_bipush (v := 16) hx hb dX6_init_81 (by decide) ?_
    have hq_7 := ix_in (i := ((1510 * 0) + 1)) (n := 3020) 1 (by decide) (by decide) (by decide)
    refine x_ist (ws' := (([(a, .inr (6, [.ref q_1, .ref q_2, .ref q_3, .ref q_4, .int 0, .int (-1), .int 0, .ref q_5, .int 0]))] : va_W) ++ [(q_1, .inl (cI, 3020, .inl (upd (upd (fun _ => 0) 0 1) 1 16)))] ++ [(q_2, .inl (cI, 12080, .inl (fun _ => 0)))] ++ [(q_3, .inl (cI, 4, .inl (fun _ => 0)))] ++ [(q_4, .inl (cI, 4, .inl (fun _ => 0)))] ++ [(q_5, .inl (cI, 2000, .inl (fun _ => 0)))])) hx hb hK hH 1 rfl hq_7.1 hq_7.2 dX6_init_83 (rfl) (fun H locs hH => ?_)
    refine lv_iinc (v := 1) (lv' := [(1, .int 1), (0, .ref a)]) hx hb dX6_init_84 hl (k := 0) rfl (by decide) (by decide) rfl (fun ls hl => ?_)
    refine lv_goto (tgt := 52) hx hb dX6_init_87 (by decide) ?_
    refine lv_iload_n hx hb dX6_init_52 rfl (lv_at hl 0 rfl) ?_
    refine lv_iconst (v := 2) hx hb dX6_init_53 (by decide) ?_
    refine lv_icmp_ge (tgt := 90) hx hb dX6_init_54 (by decide) (fun c_54 => ?_) (fun c_54 => ?_)
    · exact absurd c_54 (by decide)
    · skip
      refine lv_aload_n hx hb dX6_init_57 rfl (lv_at hl 1 rfl) ?_
      refine x_get (v := .ref q_1) (C := RX6) (T := TX6) (N := 9) hx hb hts hi6 hown hK hH.1 0 rfl rfl 0 (by decide) (hts (.fieldLink RX6 7 "PulseWheelModel" "now" "[I") (by decide +kernel)) rfl rfl dX6_init_58 ?_
      refine lv_sipush (v := 1510) hx hb dX6_init_61 (by decide) ?_
      refine lv_iload_n hx hb dX6_init_64 rfl (lv_at hl 0 rfl) ?_
      refine lv_imul hx hb dX6_init_65 ?_
      refine lv_iconst (v := 0) hx hb dX6_init_66 (by decide) ?_
      refine lv_iadd hx hb dX6_init_67 ?_
      refine lv_iconst (v := 1) hx hb dX6_init_68 (by decide) ?_
      have hq_8 := ix_in (i := ((1510 * 1) + 0)) (n := 3020) 1510 (by decide) (by decide) (by decide)
      refine x_ist (ws' := (([(a, .inr (6, [.ref q_1, .ref q_2, .ref q_3, .ref q_4, .int 0, .int (-1), .int 0, .ref q_5, .int 0]))] : va_W) ++ [(q_1, .inl (cI, 3020, .inl (upd (upd (upd (fun _ => 0) 0 1) 1 16) 1510 1)))] ++ [(q_2, .inl (cI, 12080, .inl (fun _ => 0)))] ++ [(q_3, .inl (cI, 4, .inl (fun _ => 0)))] ++ [(q_4, .inl (cI, 4, .inl (fun _ => 0)))] ++ [(q_5, .inl (cI, 2000, .inl (fun _ => 0)))])) hx hb hK hH 1 rfl hq_8.1 hq_8.2 dX6_init_69 (rfl) (fun H locs hH => ?_)
      refine lv_aload_n hx hb dX6_init_70 rfl (lv_at hl 1 rfl) ?_
      refine x_get (v := .ref q_1) (C := RX6) (T := TX6) (N := 9) hx hb hts hi6 hown hK hH.1 0 rfl rfl 0 (by decide) (hts (.fieldLink RX6 7 "PulseWheelModel" "now" "[I") (by decide +kernel)) rfl rfl dX6_init_71 ?_
      refine lv_sipush (v := 1510) hx hb dX6_init_74 (by decide) ?_
      refine lv_iload_n hx hb dX6_init_77 rfl (lv_at hl 0 rfl) ?_
      refine lv_imul hx hb dX6_init_78 ?_
      refine lv_iconst (v := 1) hx hb dX6_init_79 (by decide) ?_
      refine lv_iadd hx hb dX6_init_80 ?_
      refine lv_bipush (v := 16) hx hb dX6_init_81 (by decide) ?_
      have hq_9 := ix_in (i := ((1510 * 1) + 1)) (n := 3020) 1511 (by decide) (by decide) (by decide)
      refine x_ist (ws' := (([(a, .inr (6, [.ref q_1, .ref q_2, .ref q_3, .ref q_4, .int 0, .int (-1), .int 0, .ref q_5, .int 0]))] : va_W) ++ [(q_1, .inl (cI, 3020, .inl (upd (upd (upd (upd (fun _ => 0) 0 1) 1 16) 1510 1) 1511 16)))] ++ [(q_2, .inl (cI, 12080, .inl (fun _ => 0)))] ++ [(q_3, .inl (cI, 4, .inl (fun _ => 0)))] ++ [(q_4, .inl (cI, 4, .inl (fun _ => 0)))] ++ [(q_5, .inl (cI, 2000, .inl (fun _ => 0)))])) hx hb hK hH 1 rfl hq_9.1 hq_9.2 dX6_init_83 (rfl) (fun H locs hH => ?_)
      refine lv_iinc (v := 2) (lv' := [(1, .int 2), (0, .ref a)]) hx hb dX6_init_84 hl (k := 0) rfl (by decide) (by decide) rfl (fun ls hl => ?_)
      refine lv_goto (tgt := 52) hx hb dX6_init_87 (by decide) ?_
      refine lv_iload_n hx hb dX6_init_52 rfl (lv_at hl 0 rfl) ?_
      refine lv_iconst (v := 2) hx hb dX6_init_53 (by decide) ?_
      refine lv_icmp_ge (tgt := 90) hx hb dX6_init_54 (by decide) (fun c_54 => ?_) (fun c_54 => ?_)
      · skip
        exact hE _ _ _ _ _ hH (⟨(fun k : Nat => if k = 0 then a else if k = 1 then q_1 else if k = 2 then q_2 else if k = 3 then q_3 else if k = 4 then q_4 else q_5), rfl, rfl⟩) dX6_init_90
      · exact absurd (by decide) c_54
