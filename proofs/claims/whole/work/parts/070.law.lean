/-! ### the law -/
def LC (p : Program) (s : State) (m : MethodId) (meth : Method) (c : Code) (b L : Nat) (xs : Nat → Int32) (D : va_G) (cI cB : ClassId) : Prop := p.tables.exec = Jvm.exec ∧ c.code = code ∧ meth.sig.returnType = ret ∧ c.maxLocals = 4 ∧ s.vm.findClass RL = some m.cls ∧ (∀ w ∈ wsL_law, w.before #[Value.ref b] s = true) ∧ va_X b L xs s s.heap ∧ b < s.heap.size ∧ meth.locks = false ∧ va_K D vwCl (tyL cI cB) s ∧ NW s
def Go (p : Program) (l : Launch) (e : Env) (s : State) (m : MethodId) (below : List Frame) (meth : Method) (c : Code) (b : Nat) (D : va_G) (cI cB : ClassId) (P : Nat → Nat) (bb : Nat) (A1 A2 A : Nat → Nat) (i pc cells slots : Nat) : Prop := ∀ (tw : Int32) (tp : Nat → Int32) (t ap : Int32) (r1 r2 : Tb) (I : Nat → Option Img) (r : Tb) (H : Heap) (locs : List Loc) (ls : Array Slot), Sim tw tp t ap r1 r2 I r → Hd D (fun q : Nat => s.heap.size ≤ q) s (allW P bb A1 A2 cI cB tw I tp t ap r1 r2 A r) H locs → lv_has ls 4 [(0, .ref b), (1, .ref (P 0)), (2, .ref (A 0)), (3, .int (nI i))] → W p l e room_1 s m #[Value.ref b] below meth c H locs cells slots (lw_Z below #[Value.ref b] s) (F0 m pc ls [])
theorem x_sld {p : Program} {l : Launch} {e : Env} {R : Room} {s : State} {m : MethodId} {args : Array Value} {below : List Frame} {meth : Method} {c : Code} {H : Heap} {locs : List Loc} {cells slots : Nat} {Q : State → Prop} {pc : Nat} {ls : Array Slot} {rest : List Value} {cc : ByteArray} {D : va_G} {ws : va_W} {b L : Nat} {xs : Nat → Int32} {i : Int32} (hexec : p.tables.exec = Jvm.exec) (hb : c.code = cc) (hX : va_X b L xs s s.heap) (hbl : b < s.heap.size) (hH : Hd D (fun q : Nat => s.heap.size ≤ q) s ws H locs) (j : Nat) (hj : j < L) (hL : L ≤ 3072) (ei : i = nI j) (hdg : decode cc pc = .ok (.iaload, 1))
    (kk : W p l e R s m args below meth c H locs cells slots Q (F0 m (pc + 1) ls (.int (xs j) :: rest))) : W p l e R s m args below meth c H locs cells slots Q (F0 m pc ls (.int i :: .ref b :: rest)) := by
  subst ei
  refine va_sld hexec hb hX hbl (Nat.not_le.mpr hbl) hH.2.2 (vp_in_nI hj (by omega)) hdg ?_
  rw [nI_clamp (show j < 2 ^ 31 by omega)]
  exact kk

set_option maxHeartbeats 1000000 in
set_option maxRecDepth 100000 in
theorem law_hold {p : Program} {l : Launch} {e : Env} {s : State} {m : MethodId} {below : List Frame} {meth : Method} {c : Code} {b L : Nat} {xs : Nat → Int32} {D : va_G} {cI cB : ClassId} {P : Nat → Nat} {bb : Nat} {A1 A2 A : Nat → Nat} {i cells slots : Nat} (C0 : LC p s m meth c b L xs D cI cB) (hL : L ≤ 3072) (hi : i + 6 ≤ L) (hc : cells + 19 ≤ 600000) (hs : slots + 2988 ≤ 7302250) (K : Go p l e s m below meth c b D cI cB P bb A1 A2 A i 674 (cells + 19) (slots + 2988)) : Go p l e s m below meth c b D cI cB P bb A1 A2 A i 120 cells slots := by
  obtain ⟨hx, hb, hr, hml, hown, hts, hX, hbl, hlocks, hK, hN⟩ := C0
  intro tw tp t ap r1 r2 I r H locs ls hS hH hl
  have hA : ∀ q : Nat, s.heap.size ≤ q → (fun q : Nat => s.heap.size ≤ q) q := fun _ h => h
  have hc0 : cells + 0 ≤ room_1.cells := Nat.le_trans (Nat.le_add_right _ 19) hc
  have hs0 : slots + 0 ≤ room_1.slots := Nat.le_trans (Nat.le_add_right _ 2988) hs
  have hH : Hd D (fun q : Nat => s.heap.size ≤ q) s (pwW P bb A1 A2 cI cB tw (imF I) tp t ap r1 r2 ++ (modelW A cI r ++ imgsW cI I)) H locs := hH
  obtain ⟨⟨n51, n52⟩, ⟨tw0, tw5⟩, ⟨o1, o2⟩, ⟨ok0, ok1⟩, T0, m2, e4, t6, b0, b1, e8, m20⟩ := sim_side hS
  refine lv_aload_n hx hb dL_law_120 rfl (lv_at hl 1 rfl) ?_
  refine lv_aload_n hx hb dL_law_121 rfl (lv_at hl 0 rfl) ?_
  refine lv_iload_n hx hb dL_law_122 rfl (lv_at hl 3 rfl) ?_
  refine lv_iconst (v := 1) hx hb dL_law_123 (by decide) ?_
  refine lv_iadd hx hb dL_law_124 ?_
  refine x_sld hx hb hX hbl hH (i + 1) (by omega) hL (nI_add i 1) dL_law_125 ?_
  refine lv_aload_n hx hb dL_law_126 rfl (lv_at hl 0 rfl) ?_
  refine lv_iload_n hx hb dL_law_127 rfl (lv_at hl 3 rfl) ?_
  refine lv_iconst (v := 2) hx hb dL_law_128 (by decide) ?_
  refine lv_iadd hx hb dL_law_129 ?_
  refine x_sld hx hb hX hbl hH (i + 2) (by omega) hL (nI_add i 2) dL_law_130 ?_
  refine kCIp (va_runV (As := [.int (xs (i + 1)), .int (xs (i + 2))]) (rest := []) ⟨hx, hb, hml, hown, hts⟩ (c_X5_hold l D cI cB P bb A1 A2 tw (imF I) tp t ap r1 r2 (xs (i + 1)) (xs (i + 2)) _) (cwV 2 hts gL_law_X5_hold rfl rfl rfl (by decide +kernel) ⟨Nat.le_of_ble_eq_true rfl, Nat.le_of_ble_eq_true rfl⟩) (preV_pre (ci := 5) hH.1.left hH.2.1.left hK hN rfl 0 rfl) rfl rfl hl.1 rfl (lv_room (Nat.le_of_ble_eq_true rfl)) dL_law_131 ⟨hc0, hs0⟩) hH hA adr_pw (fun H locs hH => ?_)
  refine lv_aload_n hx hb dL_law_134 rfl (lv_at hl 2 rfl) ?_
  refine lv_aload_n hx hb dL_law_135 rfl (lv_at hl 0 rfl) ?_
  refine lv_iload_n hx hb dL_law_136 rfl (lv_at hl 3 rfl) ?_
  refine lv_iconst (v := 1) hx hb dL_law_137 (by decide) ?_
  refine lv_iadd hx hb dL_law_138 ?_
  refine x_sld hx hb hX hbl hH (i + 1) (by omega) hL (nI_add i 1) dL_law_139 ?_
  refine lv_aload_n hx hb dL_law_140 rfl (lv_at hl 0 rfl) ?_
  refine lv_iload_n hx hb dL_law_141 rfl (lv_at hl 3 rfl) ?_
  refine lv_iconst (v := 2) hx hb dL_law_142 (by decide) ?_
  refine lv_iadd hx hb dL_law_143 ?_
  refine x_sld hx hb hX hbl hH (i + 2) (by omega) hL (nI_add i 2) dL_law_144 ?_
  have hG : Hd D (fun q : Nat => s.heap.size ≤ q) s (modelW A cI r ++ (pwW P bb A1 A2 cI cB tw (imF I) tp t ap (rdV (xs (i + 1)) (holdR r1 (xs (i + 2)) t) r1 r1) (rdV (xs (i + 1)) r2 (holdR r2 (xs (i + 2)) t) r2) ++ imgsW cI I)) _ _ := hH.perm (List.perm_append_comm_assoc _ _ _)
  refine kCIp (va_runV (As := [.int (xs (i + 1)), .int (xs (i + 2))]) (rest := [.int _]) ⟨hx, hb, hml, hown, hts⟩ (c_X6_hold l D cI cB A r (xs (i + 1)) (xs (i + 2)) _) (cwV 2 hts gL_law_X6_hold rfl rfl rfl (by decide +kernel) ⟨Nat.le_of_ble_eq_true rfl, Nat.le_of_ble_eq_true rfl⟩) (preV_pre (ci := 6) hG.1.left hG.2.1.left hK hN rfl 0 rfl) rfl rfl hl.1 rfl (lv_room (Nat.le_of_ble_eq_true rfl)) dL_law_145 ⟨hc0, hs0⟩) hG hA adr_model (fun H locs hG => ?_)
  have hH : Hd D (fun q : Nat => s.heap.size ≤ q) s (pwW P bb A1 A2 cI cB tw (imF I) tp t ap (rdV (xs (i + 1)) (holdR r1 (xs (i + 2)) t) r1 r1) (rdV (xs (i + 1)) r2 (holdR r2 (xs (i + 2)) t) r2) ++ (modelW A cI (rdV (xs (i + 1)) (holdM r (1510 * 0) (xs (i + 2))) (holdM r (1510 * 1) (xs (i + 2))) r) ++ imgsW cI I)) _ _ := hG.perm (List.perm_append_comm_assoc _ _ _)
  refine lv_icmp_eq (tgt := 674) hx hb dL_law_148 (by decide) (fun c_9 => ?_) (fun c_9 => ?_)
  · exact W.widen (Nat.le_add_right _ _) (Nat.le_add_right _ _) (K _ _ _ _ _ _ _ _ _ _ _ (sim_hold hS (xs (i + 1)) (xs (i + 2))) hH (lv_sub hl [0, 1, 2, 3] rfl))
  · exact absurd (rfl) c_9

set_option maxHeartbeats 1000000 in
set_option maxRecDepth 100000 in
theorem law_turn {p : Program} {l : Launch} {e : Env} {s : State} {m : MethodId} {below : List Frame} {meth : Method} {c : Code} {b L : Nat} {xs : Nat → Int32} {D : va_G} {cI cB : ClassId} {P : Nat → Nat} {bb : Nat} {A1 A2 A : Nat → Nat} {i cells slots : Nat} (C0 : LC p s m meth c b L xs D cI cB) (hL : L ≤ 3072) (hi : i + 6 ≤ L) (hc : cells + 19 ≤ 600000) (hs : slots + 2988 ≤ 7302250) (K : Go p l e s m below meth c b D cI cB P bb A1 A2 A i 674 (cells + 19) (slots + 2988)) : Go p l e s m below meth c b D cI cB P bb A1 A2 A i 153 cells slots := by
  obtain ⟨hx, hb, hr, hml, hown, hts, hX, hbl, hlocks, hK, hN⟩ := C0
  intro tw tp t ap r1 r2 I r H locs ls hS hH hl
  have hA : ∀ q : Nat, s.heap.size ≤ q → (fun q : Nat => s.heap.size ≤ q) q := fun _ h => h
  have hc0 : cells + 0 ≤ room_1.cells := Nat.le_trans (Nat.le_add_right _ 19) hc
  have hs0 : slots + 0 ≤ room_1.slots := Nat.le_trans (Nat.le_add_right _ 2988) hs
  have hH : Hd D (fun q : Nat => s.heap.size ≤ q) s (pwW P bb A1 A2 cI cB tw (imF I) tp t ap r1 r2 ++ (modelW A cI r ++ imgsW cI I)) H locs := hH
  obtain ⟨⟨n51, n52⟩, ⟨tw0, tw5⟩, ⟨o1, o2⟩, ⟨ok0, ok1⟩, T0, m2, e4, t6, b0, b1, e8, m20⟩ := sim_side hS
  refine lv_aload_n hx hb dL_law_153 rfl (lv_at hl 1 rfl) ?_
  refine lv_aload_n hx hb dL_law_154 rfl (lv_at hl 0 rfl) ?_
  refine lv_iload_n hx hb dL_law_155 rfl (lv_at hl 3 rfl) ?_
  refine lv_iconst (v := 1) hx hb dL_law_156 (by decide) ?_
  refine lv_iadd hx hb dL_law_157 ?_
  refine x_sld hx hb hX hbl hH (i + 1) (by omega) hL (nI_add i 1) dL_law_158 ?_
  refine lv_aload_n hx hb dL_law_159 rfl (lv_at hl 0 rfl) ?_
  refine lv_iload_n hx hb dL_law_160 rfl (lv_at hl 3 rfl) ?_
  refine lv_iconst (v := 2) hx hb dL_law_161 (by decide) ?_
  refine lv_iadd hx hb dL_law_162 ?_
  refine x_sld hx hb hX hbl hH (i + 2) (by omega) hL (nI_add i 2) dL_law_163 ?_
  refine kCIp (va_runV (As := [.int (xs (i + 1)), .int (xs (i + 2))]) (rest := []) ⟨hx, hb, hml, hown, hts⟩ (c_X5_turn l D cI cB P bb A1 A2 tw (imF I) tp t ap r1 r2 (xs (i + 1)) (xs (i + 2)) _) (cwV 2 hts gL_law_X5_turn rfl rfl rfl (by decide +kernel) ⟨Nat.le_of_ble_eq_true rfl, Nat.le_of_ble_eq_true rfl⟩) (preV_pre (ci := 5) hH.1.left hH.2.1.left hK hN rfl 0 rfl) rfl rfl hl.1 rfl (lv_room (Nat.le_of_ble_eq_true rfl)) dL_law_164 ⟨hc0, hs0⟩) hH hA adr_pw (fun H locs hH => ?_)
  refine lv_aload_n hx hb dL_law_167 rfl (lv_at hl 2 rfl) ?_
  refine lv_aload_n hx hb dL_law_168 rfl (lv_at hl 0 rfl) ?_
  refine lv_iload_n hx hb dL_law_169 rfl (lv_at hl 3 rfl) ?_
  refine lv_iconst (v := 1) hx hb dL_law_170 (by decide) ?_
  refine lv_iadd hx hb dL_law_171 ?_
  refine x_sld hx hb hX hbl hH (i + 1) (by omega) hL (nI_add i 1) dL_law_172 ?_
  refine lv_aload_n hx hb dL_law_173 rfl (lv_at hl 0 rfl) ?_
  refine lv_iload_n hx hb dL_law_174 rfl (lv_at hl 3 rfl) ?_
  refine lv_iconst (v := 2) hx hb dL_law_175 (by decide) ?_
  refine lv_iadd hx hb dL_law_176 ?_
  refine x_sld hx hb hX hbl hH (i + 2) (by omega) hL (nI_add i 2) dL_law_177 ?_
  have hG : Hd D (fun q : Nat => s.heap.size ≤ q) s (modelW A cI r ++ (pwW P bb A1 A2 cI cB tw (imF I) tp t ap (rdV (xs (i + 1)) (turnR r1 (xs (i + 2)) t) r1 r1) (rdV (xs (i + 1)) r2 (turnR r2 (xs (i + 2)) t) r2) ++ imgsW cI I)) _ _ := hH.perm (List.perm_append_comm_assoc _ _ _)
  refine kCIp (va_runV (As := [.int (xs (i + 1)), .int (xs (i + 2))]) (rest := [.int _]) ⟨hx, hb, hml, hown, hts⟩ (c_X6_turn l D cI cB A r (xs (i + 1)) (xs (i + 2)) _) (cwV 2 hts gL_law_X6_turn rfl rfl rfl (by decide +kernel) ⟨Nat.le_of_ble_eq_true rfl, Nat.le_of_ble_eq_true rfl⟩) (preV_pre (ci := 6) hG.1.left hG.2.1.left hK hN rfl 0 rfl) rfl rfl hl.1 rfl (lv_room (Nat.le_of_ble_eq_true rfl)) dL_law_178 ⟨hc0, hs0⟩) hG hA adr_model (fun H locs hG => ?_)
  have hH : Hd D (fun q : Nat => s.heap.size ≤ q) s (pwW P bb A1 A2 cI cB tw (imF I) tp t ap (rdV (xs (i + 1)) (turnR r1 (xs (i + 2)) t) r1 r1) (rdV (xs (i + 1)) r2 (turnR r2 (xs (i + 2)) t) r2) ++ (modelW A cI (rdV (xs (i + 1)) (turnM r (1510 * 0) (xs (i + 2))) (turnM r (1510 * 1) (xs (i + 2))) r) ++ imgsW cI I)) _ _ := hG.perm (List.perm_append_comm_assoc _ _ _)
  refine lv_icmp_eq (tgt := 674) hx hb dL_law_181 (by decide) (fun c_9 => ?_) (fun c_9 => ?_)
  · exact W.widen (Nat.le_add_right _ _) (Nat.le_add_right _ _) (K _ _ _ _ _ _ _ _ _ _ _ (sim_turn hS (xs (i + 1)) (xs (i + 2))) hH (lv_sub hl [0, 1, 2, 3] rfl))
  · exact absurd (rfl) c_9

set_option maxHeartbeats 1000000 in
set_option maxRecDepth 100000 in
theorem law_tick {p : Program} {l : Launch} {e : Env} {s : State} {m : MethodId} {below : List Frame} {meth : Method} {c : Code} {b L : Nat} {xs : Nat → Int32} {D : va_G} {cI cB : ClassId} {P : Nat → Nat} {bb : Nat} {A1 A2 A : Nat → Nat} {i cells slots : Nat} (C0 : LC p s m meth c b L xs D cI cB) (hL : L ≤ 3072) (hi : i + 6 ≤ L) (hc : cells + 19 ≤ 600000) (hs : slots + 2988 ≤ 7302250) (K : Go p l e s m below meth c b D cI cB P bb A1 A2 A i 674 (cells + 19) (slots + 2988)) : Go p l e s m below meth c b D cI cB P bb A1 A2 A i 186 cells slots := by
  obtain ⟨hx, hb, hr, hml, hown, hts, hX, hbl, hlocks, hK, hN⟩ := C0
  intro tw tp t ap r1 r2 I r H locs ls hS hH hl
  have hA : ∀ q : Nat, s.heap.size ≤ q → (fun q : Nat => s.heap.size ≤ q) q := fun _ h => h
  have hc0 : cells + 0 ≤ room_1.cells := Nat.le_trans (Nat.le_add_right _ 19) hc
  have hs0 : slots + 0 ≤ room_1.slots := Nat.le_trans (Nat.le_add_right _ 2988) hs
  have hH : Hd D (fun q : Nat => s.heap.size ≤ q) s (pwW P bb A1 A2 cI cB tw (imF I) tp t ap r1 r2 ++ (modelW A cI r ++ imgsW cI I)) H locs := hH
  obtain ⟨⟨n51, n52⟩, ⟨tw0, tw5⟩, ⟨o1, o2⟩, ⟨ok0, ok1⟩, T0, m2, e4, t6, b0, b1, e8, m20⟩ := sim_side hS
  refine lv_aload_n hx hb dL_law_186 rfl (lv_at hl 1 rfl) ?_
  refine lv_aload_n hx hb dL_law_187 rfl (lv_at hl 0 rfl) ?_
  refine lv_iload_n hx hb dL_law_188 rfl (lv_at hl 3 rfl) ?_
  refine lv_iconst (v := 1) hx hb dL_law_189 (by decide) ?_
  refine lv_iadd hx hb dL_law_190 ?_
  refine x_sld hx hb hX hbl hH (i + 1) (by omega) hL (nI_add i 1) dL_law_191 ?_
  refine lv_aload_n hx hb dL_law_192 rfl (lv_at hl 0 rfl) ?_
  refine lv_iload_n hx hb dL_law_193 rfl (lv_at hl 3 rfl) ?_
  refine lv_iconst (v := 2) hx hb dL_law_194 (by decide) ?_
  refine lv_iadd hx hb dL_law_195 ?_
  refine x_sld hx hb hX hbl hH (i + 2) (by omega) hL (nI_add i 2) dL_law_196 ?_
  refine lv_aload_n hx hb dL_law_197 rfl (lv_at hl 0 rfl) ?_
  refine lv_iload_n hx hb dL_law_198 rfl (lv_at hl 3 rfl) ?_
  refine lv_iconst (v := 3) hx hb dL_law_199 (by decide) ?_
  refine lv_iadd hx hb dL_law_200 ?_
  refine x_sld hx hb hX hbl hH (i + 3) (by omega) hL (nI_add i 3) dL_law_201 ?_
  refine kCIp (va_runV (As := [.int (xs (i + 1)), .int (xs (i + 2)), .int (xs (i + 3))]) (rest := []) ⟨hx, hb, hml, hown, hts⟩ (c_X5_tick l D cI cB P bb A1 A2 tw (imF I) tp t ap r1 r2 (xs (i + 1)) (xs (i + 2)) (xs (i + 3)) n51 n52 _) (cwV 3 hts gL_law_X5_tick rfl rfl rfl (by decide +kernel) ⟨Nat.le_of_ble_eq_true rfl, Nat.le_of_ble_eq_true rfl⟩) (preV_pre (ci := 5) hH.1.left hH.2.1.left hK hN rfl 0 rfl) rfl rfl hl.1 rfl (lv_room (Nat.le_of_ble_eq_true rfl)) dL_law_202 ⟨hc0, hs0⟩) hH hA adr_pw (fun H locs hH => ?_)
  refine lv_aload_n hx hb dL_law_205 rfl (lv_at hl 2 rfl) ?_
  refine lv_aload_n hx hb dL_law_206 rfl (lv_at hl 0 rfl) ?_
  refine lv_iload_n hx hb dL_law_207 rfl (lv_at hl 3 rfl) ?_
  refine lv_iconst (v := 1) hx hb dL_law_208 (by decide) ?_
  refine lv_iadd hx hb dL_law_209 ?_
  refine x_sld hx hb hX hbl hH (i + 1) (by omega) hL (nI_add i 1) dL_law_210 ?_
  refine lv_aload_n hx hb dL_law_211 rfl (lv_at hl 0 rfl) ?_
  refine lv_iload_n hx hb dL_law_212 rfl (lv_at hl 3 rfl) ?_
  refine lv_iconst (v := 2) hx hb dL_law_213 (by decide) ?_
  refine lv_iadd hx hb dL_law_214 ?_
  refine x_sld hx hb hX hbl hH (i + 2) (by omega) hL (nI_add i 2) dL_law_215 ?_
  refine lv_aload_n hx hb dL_law_216 rfl (lv_at hl 0 rfl) ?_
  refine lv_iload_n hx hb dL_law_217 rfl (lv_at hl 3 rfl) ?_
  refine lv_iconst (v := 3) hx hb dL_law_218 (by decide) ?_
  refine lv_iadd hx hb dL_law_219 ?_
  refine x_sld hx hb hX hbl hH (i + 3) (by omega) hL (nI_add i 3) dL_law_220 ?_
  have hG : Hd D (fun q : Nat => s.heap.size ≤ q) s (modelW A cI r ++ (pwW P bb A1 A2 cI cB tw (imF I) tp (tickB (xs (i + 1)) (xs (i + 2)) (xs (i + 3)) (t, ap, r1, r2)).1 (tickB (xs (i + 1)) (xs (i + 2)) (xs (i + 3)) (t, ap, r1, r2)).2.1 (tickB (xs (i + 1)) (xs (i + 2)) (xs (i + 3)) (t, ap, r1, r2)).2.2.1 (tickB (xs (i + 1)) (xs (i + 2)) (xs (i + 3)) (t, ap, r1, r2)).2.2.2 ++ imgsW cI I)) _ _ := hH.perm (List.perm_append_comm_assoc _ _ _)
  refine kCIp (va_runV (As := [.int (xs (i + 1)), .int (xs (i + 2)), .int (xs (i + 3))]) (rest := [.int _]) ⟨hx, hb, hml, hown, hts⟩ (c_X6_tick l D cI cB A r (xs (i + 1)) (xs (i + 2)) (xs (i + 3)) T0 e4 t6 b0 b1 _) (cwV 3 hts gL_law_X6_tick rfl rfl rfl (by decide +kernel) ⟨Nat.le_of_ble_eq_true rfl, Nat.le_of_ble_eq_true rfl⟩) (preV_pre (ci := 6) hG.1.left hG.2.1.left hK hN rfl 0 rfl) rfl rfl hl.1 rfl (lv_room (Nat.le_of_ble_eq_true rfl)) dL_law_221 ⟨hc0, hs0⟩) hG hA adr_model (fun H locs hG => ?_)
  have hH : Hd D (fun q : Nat => s.heap.size ≤ q) s (pwW P bb A1 A2 cI cB tw (imF I) tp (tickB (xs (i + 1)) (xs (i + 2)) (xs (i + 3)) (t, ap, r1, r2)).1 (tickB (xs (i + 1)) (xs (i + 2)) (xs (i + 3)) (t, ap, r1, r2)).2.1 (tickB (xs (i + 1)) (xs (i + 2)) (xs (i + 3)) (t, ap, r1, r2)).2.2.1 (tickB (xs (i + 1)) (xs (i + 2)) (xs (i + 3)) (t, ap, r1, r2)).2.2.2 ++ (modelW A cI (tickM r (xs (i + 1)) (xs (i + 2)) (xs (i + 3))) ++ imgsW cI I)) _ _ := hG.perm (List.perm_append_comm_assoc _ _ _)
  refine lv_icmp_eq (tgt := 674) hx hb dL_law_224 (by decide) (fun c_9 => ?_) (fun c_9 => ?_)
  · exact W.widen (Nat.le_add_right _ _) (Nat.le_add_right _ _) (K _ _ _ _ _ _ _ _ _ _ _ ((sim_tick hS (xs (i + 1)) (xs (i + 2)) (xs (i + 3))).2) hH (lv_sub hl [0, 1, 2, 3] rfl))
  · exact absurd ((sim_tick hS (xs (i + 1)) (xs (i + 2)) (xs (i + 3))).1) c_9

set_option maxHeartbeats 1000000 in
set_option maxRecDepth 100000 in
theorem law_feed {p : Program} {l : Launch} {e : Env} {s : State} {m : MethodId} {below : List Frame} {meth : Method} {c : Code} {b L : Nat} {xs : Nat → Int32} {D : va_G} {cI cB : ClassId} {P : Nat → Nat} {bb : Nat} {A1 A2 A : Nat → Nat} {i cells slots : Nat} (C0 : LC p s m meth c b L xs D cI cB) (hL : L ≤ 3072) (hi : i + 6 ≤ L) (hc : cells + 19 ≤ 600000) (hs : slots + 2988 ≤ 7302250) (K : Go p l e s m below meth c b D cI cB P bb A1 A2 A i 674 (cells + 19) (slots + 2988)) : Go p l e s m below meth c b D cI cB P bb A1 A2 A i 229 cells slots := by
  obtain ⟨hx, hb, hr, hml, hown, hts, hX, hbl, hlocks, hK, hN⟩ := C0
  intro tw tp t ap r1 r2 I r H locs ls hS hH hl
  have hA : ∀ q : Nat, s.heap.size ≤ q → (fun q : Nat => s.heap.size ≤ q) q := fun _ h => h
  have hc0 : cells + 0 ≤ room_1.cells := Nat.le_trans (Nat.le_add_right _ 19) hc
  have hs0 : slots + 0 ≤ room_1.slots := Nat.le_trans (Nat.le_add_right _ 2988) hs
  have hH : Hd D (fun q : Nat => s.heap.size ≤ q) s (pwW P bb A1 A2 cI cB tw (imF I) tp t ap r1 r2 ++ (modelW A cI r ++ imgsW cI I)) H locs := hH
  obtain ⟨⟨n51, n52⟩, ⟨tw0, tw5⟩, ⟨o1, o2⟩, ⟨ok0, ok1⟩, T0, m2, e4, t6, b0, b1, e8, m20⟩ := sim_side hS
  refine lv_aload_n hx hb dL_law_229 rfl (lv_at hl 1 rfl) ?_
  refine lv_aload_n hx hb dL_law_230 rfl (lv_at hl 0 rfl) ?_
  refine lv_iload_n hx hb dL_law_231 rfl (lv_at hl 3 rfl) ?_
  refine lv_iconst (v := 1) hx hb dL_law_232 (by decide) ?_
  refine lv_iadd hx hb dL_law_233 ?_
  refine x_sld hx hb hX hbl hH (i + 1) (by omega) hL (nI_add i 1) dL_law_234 ?_
  refine lv_aload_n hx hb dL_law_235 rfl (lv_at hl 0 rfl) ?_
  refine lv_iload_n hx hb dL_law_236 rfl (lv_at hl 3 rfl) ?_
  refine lv_iconst (v := 2) hx hb dL_law_237 (by decide) ?_
  refine lv_iadd hx hb dL_law_238 ?_
  refine x_sld hx hb hX hbl hH (i + 2) (by omega) hL (nI_add i 2) dL_law_239 ?_
  refine lv_aload_n hx hb dL_law_240 rfl (lv_at hl 0 rfl) ?_
  refine lv_iload_n hx hb dL_law_241 rfl (lv_at hl 3 rfl) ?_
  refine lv_iconst (v := 3) hx hb dL_law_242 (by decide) ?_
  refine lv_iadd hx hb dL_law_243 ?_
  refine x_sld hx hb hX hbl hH (i + 3) (by omega) hL (nI_add i 3) dL_law_244 ?_
  refine lv_aload_n hx hb dL_law_245 rfl (lv_at hl 0 rfl) ?_
  refine lv_iload_n hx hb dL_law_246 rfl (lv_at hl 3 rfl) ?_
  refine lv_iconst (v := 4) hx hb dL_law_247 (by decide) ?_
  refine lv_iadd hx hb dL_law_248 ?_
  refine x_sld hx hb hX hbl hH (i + 4) (by omega) hL (nI_add i 4) dL_law_249 ?_
  refine lv_aload_n hx hb dL_law_250 rfl (lv_at hl 0 rfl) ?_
  refine lv_iload_n hx hb dL_law_251 rfl (lv_at hl 3 rfl) ?_
  refine lv_iconst (v := 5) hx hb dL_law_252 (by decide) ?_
  refine lv_iadd hx hb dL_law_253 ?_
  refine x_sld hx hb hX hbl hH (i + 5) (by omega) hL (nI_add i 5) dL_law_254 ?_
  refine kCIp (va_runV (As := [.int (xs (i + 1)), .int (xs (i + 2)), .int (xs (i + 3)), .int (xs (i + 4)), .int (xs (i + 5))]) (rest := []) ⟨hx, hb, hml, hown, hts⟩ (c_X5_feed l D cI cB P bb A1 A2 tw (imF I) tp t ap r1 r2 (xs (i + 1)) (xs (i + 2)) (xs (i + 3)) (xs (i + 4)) (xs (i + 5)) tw0 _) (cwV 5 hts gL_law_X5_feed rfl rfl rfl (by decide +kernel) ⟨Nat.le_of_ble_eq_true rfl, Nat.le_of_ble_eq_true rfl⟩) (preV_pre (ci := 5) hH.1.left hH.2.1.left hK hN rfl 0 rfl) rfl rfl hl.1 rfl (lv_room (Nat.le_of_ble_eq_true rfl)) dL_law_255 ⟨hc0, hs0⟩) hH hA adr_pw (fun H locs hH => ?_)
  refine lv_aload_n hx hb dL_law_258 rfl (lv_at hl 2 rfl) ?_
  refine lv_aload_n hx hb dL_law_259 rfl (lv_at hl 0 rfl) ?_
  refine lv_iload_n hx hb dL_law_260 rfl (lv_at hl 3 rfl) ?_
  refine lv_iconst (v := 1) hx hb dL_law_261 (by decide) ?_
  refine lv_iadd hx hb dL_law_262 ?_
  refine x_sld hx hb hX hbl hH (i + 1) (by omega) hL (nI_add i 1) dL_law_263 ?_
  refine lv_aload_n hx hb dL_law_264 rfl (lv_at hl 0 rfl) ?_
  refine lv_iload_n hx hb dL_law_265 rfl (lv_at hl 3 rfl) ?_
  refine lv_iconst (v := 2) hx hb dL_law_266 (by decide) ?_
  refine lv_iadd hx hb dL_law_267 ?_
  refine x_sld hx hb hX hbl hH (i + 2) (by omega) hL (nI_add i 2) dL_law_268 ?_
  refine lv_aload_n hx hb dL_law_269 rfl (lv_at hl 0 rfl) ?_
  refine lv_iload_n hx hb dL_law_270 rfl (lv_at hl 3 rfl) ?_
  refine lv_iconst (v := 3) hx hb dL_law_271 (by decide) ?_
  refine lv_iadd hx hb dL_law_272 ?_
  refine x_sld hx hb hX hbl hH (i + 3) (by omega) hL (nI_add i 3) dL_law_273 ?_
  refine lv_aload_n hx hb dL_law_274 rfl (lv_at hl 0 rfl) ?_
  refine lv_iload_n hx hb dL_law_275 rfl (lv_at hl 3 rfl) ?_
  refine lv_iconst (v := 4) hx hb dL_law_276 (by decide) ?_
  refine lv_iadd hx hb dL_law_277 ?_
  refine x_sld hx hb hX hbl hH (i + 4) (by omega) hL (nI_add i 4) dL_law_278 ?_
  refine lv_aload_n hx hb dL_law_279 rfl (lv_at hl 0 rfl) ?_
  refine lv_iload_n hx hb dL_law_280 rfl (lv_at hl 3 rfl) ?_
  refine lv_iconst (v := 5) hx hb dL_law_281 (by decide) ?_
  refine lv_iadd hx hb dL_law_282 ?_
  refine x_sld hx hb hX hbl hH (i + 5) (by omega) hL (nI_add i 5) dL_law_283 ?_
  have hG : Hd D (fun q : Nat => s.heap.size ≤ q) s (modelW A cI r ++ (pwW P bb A1 A2 cI cB (feedW tw) (imF I) (feedT tw tp (xs (i + 1)) (xs (i + 2)) (xs (i + 3)) (xs (i + 4)) (xs (i + 5))) t ap r1 r2 ++ imgsW cI I)) _ _ := hH.perm (List.perm_append_comm_assoc _ _ _)
  refine kCIp (va_runV (As := [.int (xs (i + 1)), .int (xs (i + 2)), .int (xs (i + 3)), .int (xs (i + 4)), .int (xs (i + 5))]) (rest := [.int _]) ⟨hx, hb, hml, hown, hts⟩ (c_X6_feed l D cI cB A r (xs (i + 1)) (xs (i + 2)) (xs (i + 3)) (xs (i + 4)) (xs (i + 5)) m2 e8 m20 _) (cwV 5 hts gL_law_X6_feed rfl rfl rfl (by decide +kernel) ⟨Nat.le_of_ble_eq_true rfl, Nat.le_of_ble_eq_true rfl⟩) (preV_pre (ci := 6) hG.1.left hG.2.1.left hK hN rfl 0 rfl) rfl rfl hl.1 rfl (lv_room (Nat.le_of_ble_eq_true rfl)) dL_law_284 ⟨hc0, hs0⟩) hG hA adr_model (fun H locs hG => ?_)
  have hH : Hd D (fun q : Nat => s.heap.size ≤ q) s (pwW P bb A1 A2 cI cB (feedW tw) (imF I) (feedT tw tp (xs (i + 1)) (xs (i + 2)) (xs (i + 3)) (xs (i + 4)) (xs (i + 5))) t ap r1 r2 ++ (modelW A cI (feedM r m2 (xs (i + 1)) (xs (i + 2)) (xs (i + 3)) (xs (i + 4)) (xs (i + 5))) ++ imgsW cI I)) _ _ := hG.perm (List.perm_append_comm_assoc _ _ _)
  refine lv_icmp_eq (tgt := 674) hx hb dL_law_287 (by decide) (fun c_9 => ?_) (fun c_9 => ?_)
  · exact W.widen (Nat.le_add_right _ _) (Nat.le_add_right _ _) (K _ _ _ _ _ _ _ _ _ _ _ ((sim_feed hS (xs (i + 1)) (xs (i + 2)) (xs (i + 3)) (xs (i + 4)) (xs (i + 5)) m2 e8 m20).2) hH (lv_sub hl [0, 1, 2, 3] rfl))
  · exact absurd ((sim_feed hS (xs (i + 1)) (xs (i + 2)) (xs (i + 3)) (xs (i + 4)) (xs (i + 5)) m2 e8 m20).1) c_9

set_option maxHeartbeats 1000000 in
set_option maxRecDepth 100000 in
theorem law_play {p : Program} {l : Launch} {e : Env} {s : State} {m : MethodId} {below : List Frame} {meth : Method} {c : Code} {b L : Nat} {xs : Nat → Int32} {D : va_G} {cI cB : ClassId} {P : Nat → Nat} {bb : Nat} {A1 A2 A : Nat → Nat} {i cells slots : Nat} (C0 : LC p s m meth c b L xs D cI cB) (hL : L ≤ 3072) (hi : i + 6 ≤ L) (hc : cells + 19 ≤ 600000) (hs : slots + 2988 ≤ 7302250) (K : Go p l e s m below meth c b D cI cB P bb A1 A2 A i 674 (cells + 19) (slots + 2988)) : Go p l e s m below meth c b D cI cB P bb A1 A2 A i 292 cells slots := by
  obtain ⟨hx, hb, hr, hml, hown, hts, hX, hbl, hlocks, hK, hN⟩ := C0
  intro tw tp t ap r1 r2 I r H locs ls hS hH hl
  have hA : ∀ q : Nat, s.heap.size ≤ q → (fun q : Nat => s.heap.size ≤ q) q := fun _ h => h
  have hc0 : cells + 0 ≤ room_1.cells := Nat.le_trans (Nat.le_add_right _ 19) hc
  have hs0 : slots + 0 ≤ room_1.slots := Nat.le_trans (Nat.le_add_right _ 2988) hs
  have hH : Hd D (fun q : Nat => s.heap.size ≤ q) s (pwW P bb A1 A2 cI cB tw (imF I) tp t ap r1 r2 ++ (modelW A cI r ++ imgsW cI I)) H locs := hH
  obtain ⟨⟨n51, n52⟩, ⟨tw0, tw5⟩, ⟨o1, o2⟩, ⟨ok0, ok1⟩, T0, m2, e4, t6, b0, b1, e8, m20⟩ := sim_side hS
  refine lv_aload_n hx hb dL_law_292 rfl (lv_at hl 1 rfl) ?_
  refine lv_aload_n hx hb dL_law_293 rfl (lv_at hl 0 rfl) ?_
  refine lv_iload_n hx hb dL_law_294 rfl (lv_at hl 3 rfl) ?_
  refine lv_iconst (v := 1) hx hb dL_law_295 (by decide) ?_
  refine lv_iadd hx hb dL_law_296 ?_
  refine x_sld hx hb hX hbl hH (i + 1) (by omega) hL (nI_add i 1) dL_law_297 ?_
  refine kCIp (va_runV (As := [.int (xs (i + 1))]) (rest := []) ⟨hx, hb, hml, hown, hts⟩ (c_X5_play l D cI cB P bb A1 A2 tw (imF I) tp t ap r1 r2 (xs (i + 1)) n51 n52 tw5 _) (cwV 1 hts gL_law_X5_play rfl rfl rfl (by decide +kernel) ⟨Nat.le_of_ble_eq_true rfl, Nat.le_of_ble_eq_true rfl⟩) (preV_pre (ci := 5) hH.1.left hH.2.1.left hK hN rfl 0 rfl) rfl rfl hl.1 rfl (lv_room (Nat.le_of_ble_eq_true rfl)) dL_law_298 ⟨hc0, hs0⟩) hH hA adr_pw (fun H locs hH => ?_)
  refine lv_aload_n hx hb dL_law_301 rfl (lv_at hl 2 rfl) ?_
  refine lv_aload_n hx hb dL_law_302 rfl (lv_at hl 0 rfl) ?_
  refine lv_iload_n hx hb dL_law_303 rfl (lv_at hl 3 rfl) ?_
  refine lv_iconst (v := 1) hx hb dL_law_304 (by decide) ?_
  refine lv_iadd hx hb dL_law_305 ?_
  refine x_sld hx hb hX hbl hH (i + 1) (by omega) hL (nI_add i 1) dL_law_306 ?_
  have hG : Hd D (fun q : Nat => s.heap.size ≤ q) s (modelW A cI r ++ (pwW P bb A1 A2 cI cB (playW tw (xs (i + 1))) (imF I) tp (playB tw tp (xs (i + 1)) (t, ap, r1, r2)).1 (playB tw tp (xs (i + 1)) (t, ap, r1, r2)).2.1 (playB tw tp (xs (i + 1)) (t, ap, r1, r2)).2.2.1 (playB tw tp (xs (i + 1)) (t, ap, r1, r2)).2.2.2 ++ imgsW cI I)) _ _ := hH.perm (List.perm_append_comm_assoc _ _ _)
  refine kCIp (va_runV (As := [.int (xs (i + 1))]) (rest := [.int _]) ⟨hx, hb, hml, hown, hts⟩ (c_X6_play l D cI cB A r (xs (i + 1)) T0 m2 e4 t6 b0 b1 e8 m20 _) (cwV 1 hts gL_law_X6_play rfl rfl rfl (by decide +kernel) ⟨Nat.le_of_ble_eq_true rfl, Nat.le_of_ble_eq_true rfl⟩) (preV_pre (ci := 6) hG.1.left hG.2.1.left hK hN rfl 0 rfl) rfl rfl hl.1 rfl (lv_room (Nat.le_of_ble_eq_true rfl)) dL_law_307 ⟨hc0, hs0⟩) hG hA adr_model (fun H locs hG => ?_)
  have hH : Hd D (fun q : Nat => s.heap.size ≤ q) s (pwW P bb A1 A2 cI cB (playW tw (xs (i + 1))) (imF I) tp (playB tw tp (xs (i + 1)) (t, ap, r1, r2)).1 (playB tw tp (xs (i + 1)) (t, ap, r1, r2)).2.1 (playB tw tp (xs (i + 1)) (t, ap, r1, r2)).2.2.1 (playB tw tp (xs (i + 1)) (t, ap, r1, r2)).2.2.2 ++ (modelW A cI (playMR r (xs (i + 1))) ++ imgsW cI I)) _ _ := hG.perm (List.perm_append_comm_assoc _ _ _)
  refine lv_icmp_eq (tgt := 674) hx hb dL_law_310 (by decide) (fun c_9 => ?_) (fun c_9 => ?_)
  · exact W.widen (Nat.le_add_right _ _) (Nat.le_add_right _ _) (K _ _ _ _ _ _ _ _ _ _ _ ((sim_play hS (xs (i + 1))).2) hH (lv_sub hl [0, 1, 2, 3] rfl))
  · exact absurd ((sim_play hS (xs (i + 1))).1) c_9

set_option maxHeartbeats 1000000 in
set_option maxRecDepth 100000 in
theorem law_of {p : Program} {l : Launch} {e : Env} {s : State} {m : MethodId} {below : List Frame} {meth : Method} {c : Code} {b L : Nat} {xs : Nat → Int32} {D : va_G} {cI cB : ClassId} {P : Nat → Nat} {bb : Nat} {A1 A2 A : Nat → Nat} {i cells slots : Nat} (C0 : LC p s m meth c b L xs D cI cB) (hL : L ≤ 3072) (hi : i + 6 ≤ L) (hc : cells + 19 ≤ 600000) (hs : slots + 2988 ≤ 7302250) (K : Go p l e s m below meth c b D cI cB P bb A1 A2 A i 674 (cells + 19) (slots + 2988)) : Go p l e s m below meth c b D cI cB P bb A1 A2 A i 315 cells slots := by
  obtain ⟨hx, hb, hr, hml, hown, hts, hX, hbl, hlocks, hK, hN⟩ := C0
  intro tw tp t ap r1 r2 I r H locs ls hS hH hl
  have hA : ∀ q : Nat, s.heap.size ≤ q → (fun q : Nat => s.heap.size ≤ q) q := fun _ h => h
  have hc0 : cells + 0 ≤ room_1.cells := Nat.le_trans (Nat.le_add_right _ 19) hc
  have hs0 : slots + 0 ≤ room_1.slots := Nat.le_trans (Nat.le_add_right _ 2988) hs
  have hH : Hd D (fun q : Nat => s.heap.size ≤ q) s (pwW P bb A1 A2 cI cB tw (imF I) tp t ap r1 r2 ++ (modelW A cI r ++ imgsW cI I)) H locs := hH
  obtain ⟨⟨n51, n52⟩, ⟨tw0, tw5⟩, ⟨o1, o2⟩, ⟨ok0, ok1⟩, T0, m2, e4, t6, b0, b1, e8, m20⟩ := sim_side hS
  refine lv_aload_n hx hb dL_law_315 rfl (lv_at hl 1 rfl) ?_
  refine lv_aload_n hx hb dL_law_316 rfl (lv_at hl 0 rfl) ?_
  refine lv_iload_n hx hb dL_law_317 rfl (lv_at hl 3 rfl) ?_
  refine lv_iconst (v := 1) hx hb dL_law_318 (by decide) ?_
  refine lv_iadd hx hb dL_law_319 ?_
  refine x_sld hx hb hX hbl hH (i + 1) (by omega) hL (nI_add i 1) dL_law_320 ?_
  refine lv_aload_n hx hb dL_law_321 rfl (lv_at hl 0 rfl) ?_
  refine lv_iload_n hx hb dL_law_322 rfl (lv_at hl 3 rfl) ?_
  refine lv_iconst (v := 2) hx hb dL_law_323 (by decide) ?_
  refine lv_iadd hx hb dL_law_324 ?_
  refine x_sld hx hb hX hbl hH (i + 2) (by omega) hL (nI_add i 2) dL_law_325 ?_
  refine kSI (va_runV (As := [.int (xs (i + 1)), .int (xs (i + 2))]) (rest := []) ⟨hx, hb, hml, hown, hts⟩ (c_X5_of l D cI cB P bb A1 A2 tw (imF I) tp t ap r1 r2 (xs (i + 1)) (xs (i + 2)) _) (cwV 2 hts gL_law_X5_of rfl rfl rfl (by decide +kernel) ⟨Nat.le_of_ble_eq_true rfl, Nat.le_of_ble_eq_true rfl⟩) (preV_pre (ci := 5) hH.1.left hH.2.1.left hK hN rfl 0 rfl) rfl rfl hl.1 rfl (lv_room (Nat.le_of_ble_eq_true rfl)) dL_law_326 ⟨hc0, hs0⟩) ?_
  refine lv_aload_n hx hb dL_law_329 rfl (lv_at hl 2 rfl) ?_
  refine lv_aload_n hx hb dL_law_330 rfl (lv_at hl 0 rfl) ?_
  refine lv_iload_n hx hb dL_law_331 rfl (lv_at hl 3 rfl) ?_
  refine lv_iconst (v := 1) hx hb dL_law_332 (by decide) ?_
  refine lv_iadd hx hb dL_law_333 ?_
  refine x_sld hx hb hX hbl hH (i + 1) (by omega) hL (nI_add i 1) dL_law_334 ?_
  refine lv_aload_n hx hb dL_law_335 rfl (lv_at hl 0 rfl) ?_
  refine lv_iload_n hx hb dL_law_336 rfl (lv_at hl 3 rfl) ?_
  refine lv_iconst (v := 2) hx hb dL_law_337 (by decide) ?_
  refine lv_iadd hx hb dL_law_338 ?_
  refine x_sld hx hb hX hbl hH (i + 2) (by omega) hL (nI_add i 2) dL_law_339 ?_
  have hG : Hd D (fun q : Nat => s.heap.size ≤ q) s (modelW A cI r ++ (pwW P bb A1 A2 cI cB tw (imF I) tp t ap r1 r2 ++ imgsW cI I)) _ _ := hH.perm (List.perm_append_comm_assoc _ _ _)
  refine kSI (va_runV (As := [.int (xs (i + 1)), .int (xs (i + 2))]) (rest := [.int _]) ⟨hx, hb, hml, hown, hts⟩ (c_X6_of l D cI cB A r (xs (i + 1)) (xs (i + 2)) _) (cwV 2 hts gL_law_X6_of rfl rfl rfl (by decide +kernel) ⟨Nat.le_of_ble_eq_true rfl, Nat.le_of_ble_eq_true rfl⟩) (preV_pre (ci := 6) hG.1.left hG.2.1.left hK hN rfl 0 rfl) rfl rfl hl.1 rfl (lv_room (Nat.le_of_ble_eq_true rfl)) dL_law_340 ⟨hc0, hs0⟩) ?_
  refine lv_icmp_eq (tgt := 674) hx hb dL_law_343 (by decide) (fun c_9 => ?_) (fun c_9 => ?_)
  · exact W.widen (Nat.le_add_right _ _) (Nat.le_add_right _ _) (K _ _ _ _ _ _ _ _ _ _ _ (hS) hH (lv_sub hl [0, 1, 2, 3] rfl))
  · exact absurd (sim_of hS (xs (i + 1)) (xs (i + 2))) c_9

set_option maxHeartbeats 1000000 in
set_option maxRecDepth 100000 in
theorem law_origin {p : Program} {l : Launch} {e : Env} {s : State} {m : MethodId} {below : List Frame} {meth : Method} {c : Code} {b L : Nat} {xs : Nat → Int32} {D : va_G} {cI cB : ClassId} {P : Nat → Nat} {bb : Nat} {A1 A2 A : Nat → Nat} {i cells slots : Nat} (C0 : LC p s m meth c b L xs D cI cB) (hL : L ≤ 3072) (hi : i + 6 ≤ L) (hc : cells + 19 ≤ 600000) (hs : slots + 2988 ≤ 7302250) (K : Go p l e s m below meth c b D cI cB P bb A1 A2 A i 674 (cells + 19) (slots + 2988)) : Go p l e s m below meth c b D cI cB P bb A1 A2 A i 348 cells slots := by
  obtain ⟨hx, hb, hr, hml, hown, hts, hX, hbl, hlocks, hK, hN⟩ := C0
  intro tw tp t ap r1 r2 I r H locs ls hS hH hl
  have hA : ∀ q : Nat, s.heap.size ≤ q → (fun q : Nat => s.heap.size ≤ q) q := fun _ h => h
  have hc0 : cells + 0 ≤ room_1.cells := Nat.le_trans (Nat.le_add_right _ 19) hc
  have hs0 : slots + 0 ≤ room_1.slots := Nat.le_trans (Nat.le_add_right _ 2988) hs
  have hH : Hd D (fun q : Nat => s.heap.size ≤ q) s (pwW P bb A1 A2 cI cB tw (imF I) tp t ap r1 r2 ++ (modelW A cI r ++ imgsW cI I)) H locs := hH
  obtain ⟨⟨n51, n52⟩, ⟨tw0, tw5⟩, ⟨o1, o2⟩, ⟨ok0, ok1⟩, T0, m2, e4, t6, b0, b1, e8, m20⟩ := sim_side hS
  refine lv_aload_n hx hb dL_law_348 rfl (lv_at hl 1 rfl) ?_
  refine lv_aload_n hx hb dL_law_349 rfl (lv_at hl 0 rfl) ?_
  refine lv_iload_n hx hb dL_law_350 rfl (lv_at hl 3 rfl) ?_
  refine lv_iconst (v := 1) hx hb dL_law_351 (by decide) ?_
  refine lv_iadd hx hb dL_law_352 ?_
  refine x_sld hx hb hX hbl hH (i + 1) (by omega) hL (nI_add i 1) dL_law_353 ?_
  refine kSI (va_runV (As := [.int (xs (i + 1))]) (rest := []) ⟨hx, hb, hml, hown, hts⟩ (c_X5_origin l D cI cB P bb A1 A2 tw (imF I) tp t ap r1 r2 (xs (i + 1)) _) (cwV 1 hts gL_law_X5_origin rfl rfl rfl (by decide +kernel) ⟨Nat.le_of_ble_eq_true rfl, Nat.le_of_ble_eq_true rfl⟩) (preV_pre (ci := 5) hH.1.left hH.2.1.left hK hN rfl 0 rfl) rfl rfl hl.1 rfl (lv_room (Nat.le_of_ble_eq_true rfl)) dL_law_354 ⟨hc0, hs0⟩) ?_
  refine lv_aload_n hx hb dL_law_357 rfl (lv_at hl 2 rfl) ?_
  refine lv_aload_n hx hb dL_law_358 rfl (lv_at hl 0 rfl) ?_
  refine lv_iload_n hx hb dL_law_359 rfl (lv_at hl 3 rfl) ?_
  refine lv_iconst (v := 1) hx hb dL_law_360 (by decide) ?_
  refine lv_iadd hx hb dL_law_361 ?_
  refine x_sld hx hb hX hbl hH (i + 1) (by omega) hL (nI_add i 1) dL_law_362 ?_
  have hG : Hd D (fun q : Nat => s.heap.size ≤ q) s (modelW A cI r ++ (pwW P bb A1 A2 cI cB tw (imF I) tp t ap r1 r2 ++ imgsW cI I)) _ _ := hH.perm (List.perm_append_comm_assoc _ _ _)
  refine kSI (va_runV (As := [.int (xs (i + 1))]) (rest := [.int _]) ⟨hx, hb, hml, hown, hts⟩ (c_X6_origin l D cI cB A r (xs (i + 1)) _) (cwV 1 hts gL_law_X6_origin rfl rfl rfl (by decide +kernel) ⟨Nat.le_of_ble_eq_true rfl, Nat.le_of_ble_eq_true rfl⟩) (preV_pre (ci := 6) hG.1.left hG.2.1.left hK hN rfl 0 rfl) rfl rfl hl.1 rfl (lv_room (Nat.le_of_ble_eq_true rfl)) dL_law_363 ⟨hc0, hs0⟩) ?_
  refine lv_icmp_eq (tgt := 674) hx hb dL_law_366 (by decide) (fun c_9 => ?_) (fun c_9 => ?_)
  · exact W.widen (Nat.le_add_right _ _) (Nat.le_add_right _ _) (K _ _ _ _ _ _ _ _ _ _ _ (hS) hH (lv_sub hl [0, 1, 2, 3] rfl))
  · exact absurd (sim_origin hS (xs (i + 1))) c_9

set_option maxHeartbeats 1000000 in
set_option maxRecDepth 100000 in
theorem law_event {p : Program} {l : Launch} {e : Env} {s : State} {m : MethodId} {below : List Frame} {meth : Method} {c : Code} {b L : Nat} {xs : Nat → Int32} {D : va_G} {cI cB : ClassId} {P : Nat → Nat} {bb : Nat} {A1 A2 A : Nat → Nat} {i cells slots : Nat} (C0 : LC p s m meth c b L xs D cI cB) (hL : L ≤ 3072) (hi : i + 6 ≤ L) (hc : cells + 19 ≤ 600000) (hs : slots + 2988 ≤ 7302250) (K : Go p l e s m below meth c b D cI cB P bb A1 A2 A i 674 (cells + 19) (slots + 2988)) : Go p l e s m below meth c b D cI cB P bb A1 A2 A i 371 cells slots := by
  obtain ⟨hx, hb, hr, hml, hown, hts, hX, hbl, hlocks, hK, hN⟩ := C0
  intro tw tp t ap r1 r2 I r H locs ls hS hH hl
  have hA : ∀ q : Nat, s.heap.size ≤ q → (fun q : Nat => s.heap.size ≤ q) q := fun _ h => h
  have hc0 : cells + 0 ≤ room_1.cells := Nat.le_trans (Nat.le_add_right _ 19) hc
  have hs0 : slots + 0 ≤ room_1.slots := Nat.le_trans (Nat.le_add_right _ 2988) hs
  have hH : Hd D (fun q : Nat => s.heap.size ≤ q) s (pwW P bb A1 A2 cI cB tw (imF I) tp t ap r1 r2 ++ (modelW A cI r ++ imgsW cI I)) H locs := hH
  obtain ⟨⟨n51, n52⟩, ⟨tw0, tw5⟩, ⟨o1, o2⟩, ⟨ok0, ok1⟩, T0, m2, e4, t6, b0, b1, e8, m20⟩ := sim_side hS
  refine lv_aload_n hx hb dL_law_371 rfl (lv_at hl 1 rfl) ?_
  refine lv_aload_n hx hb dL_law_372 rfl (lv_at hl 0 rfl) ?_
  refine lv_iload_n hx hb dL_law_373 rfl (lv_at hl 3 rfl) ?_
  refine lv_iconst (v := 1) hx hb dL_law_374 (by decide) ?_
  refine lv_iadd hx hb dL_law_375 ?_
  refine x_sld hx hb hX hbl hH (i + 1) (by omega) hL (nI_add i 1) dL_law_376 ?_
  refine lv_aload_n hx hb dL_law_377 rfl (lv_at hl 0 rfl) ?_
  refine lv_iload_n hx hb dL_law_378 rfl (lv_at hl 3 rfl) ?_
  refine lv_iconst (v := 2) hx hb dL_law_379 (by decide) ?_
  refine lv_iadd hx hb dL_law_380 ?_
  refine x_sld hx hb hX hbl hH (i + 2) (by omega) hL (nI_add i 2) dL_law_381 ?_
  refine lv_aload_n hx hb dL_law_382 rfl (lv_at hl 0 rfl) ?_
  refine lv_iload_n hx hb dL_law_383 rfl (lv_at hl 3 rfl) ?_
  refine lv_iconst (v := 3) hx hb dL_law_384 (by decide) ?_
  refine lv_iadd hx hb dL_law_385 ?_
  refine x_sld hx hb hX hbl hH (i + 3) (by omega) hL (nI_add i 3) dL_law_386 ?_
  refine kSI (va_runV (As := [.int (xs (i + 1)), .int (xs (i + 2)), .int (xs (i + 3))]) (rest := []) ⟨hx, hb, hml, hown, hts⟩ (c_X5_event l D cI cB P bb A1 A2 tw (imF I) tp t ap r1 r2 (xs (i + 1)) (xs (i + 2)) (xs (i + 3)) _) (cwV 3 hts gL_law_X5_event rfl rfl rfl (by decide +kernel) ⟨Nat.le_of_ble_eq_true rfl, Nat.le_of_ble_eq_true rfl⟩) (preV_pre (ci := 5) hH.1.left hH.2.1.left hK hN rfl 0 rfl) rfl rfl hl.1 rfl (lv_room (Nat.le_of_ble_eq_true rfl)) dL_law_387 ⟨hc0, hs0⟩) ?_
  refine lv_aload_n hx hb dL_law_390 rfl (lv_at hl 2 rfl) ?_
  refine lv_aload_n hx hb dL_law_391 rfl (lv_at hl 0 rfl) ?_
  refine lv_iload_n hx hb dL_law_392 rfl (lv_at hl 3 rfl) ?_
  refine lv_iconst (v := 1) hx hb dL_law_393 (by decide) ?_
  refine lv_iadd hx hb dL_law_394 ?_
  refine x_sld hx hb hX hbl hH (i + 1) (by omega) hL (nI_add i 1) dL_law_395 ?_
  refine lv_aload_n hx hb dL_law_396 rfl (lv_at hl 0 rfl) ?_
  refine lv_iload_n hx hb dL_law_397 rfl (lv_at hl 3 rfl) ?_
  refine lv_iconst (v := 2) hx hb dL_law_398 (by decide) ?_
  refine lv_iadd hx hb dL_law_399 ?_
  refine x_sld hx hb hX hbl hH (i + 2) (by omega) hL (nI_add i 2) dL_law_400 ?_
  refine lv_aload_n hx hb dL_law_401 rfl (lv_at hl 0 rfl) ?_
  refine lv_iload_n hx hb dL_law_402 rfl (lv_at hl 3 rfl) ?_
  refine lv_iconst (v := 3) hx hb dL_law_403 (by decide) ?_
  refine lv_iadd hx hb dL_law_404 ?_
  refine x_sld hx hb hX hbl hH (i + 3) (by omega) hL (nI_add i 3) dL_law_405 ?_
  have hG : Hd D (fun q : Nat => s.heap.size ≤ q) s (modelW A cI r ++ (pwW P bb A1 A2 cI cB tw (imF I) tp t ap r1 r2 ++ imgsW cI I)) _ _ := hH.perm (List.perm_append_comm_assoc _ _ _)
  refine kSI (va_runV (As := [.int (xs (i + 1)), .int (xs (i + 2)), .int (xs (i + 3))]) (rest := [.int _]) ⟨hx, hb, hml, hown, hts⟩ (c_X6_event_ l D cI cB A r (xs (i + 1)) (xs (i + 2)) (xs (i + 3)) _) (cwV 3 hts gL_law_X6_event_ rfl rfl rfl (by decide +kernel) ⟨Nat.le_of_ble_eq_true rfl, Nat.le_of_ble_eq_true rfl⟩) (preV_pre (ci := 6) hG.1.left hG.2.1.left hK hN rfl 0 rfl) rfl rfl hl.1 rfl (lv_room (Nat.le_of_ble_eq_true rfl)) dL_law_406 ⟨hc0, hs0⟩) ?_
  refine lv_icmp_eq (tgt := 674) hx hb dL_law_409 (by decide) (fun c_9 => ?_) (fun c_9 => ?_)
  · exact W.widen (Nat.le_add_right _ _) (Nat.le_add_right _ _) (K _ _ _ _ _ _ _ _ _ _ _ (hS) hH (lv_sub hl [0, 1, 2, 3] rfl))
  · exact absurd (sim_event hS (xs (i + 1)) (xs (i + 2)) (xs (i + 3))) c_9

set_option maxHeartbeats 1000000 in
set_option maxRecDepth 100000 in
theorem law_row {p : Program} {l : Launch} {e : Env} {s : State} {m : MethodId} {below : List Frame} {meth : Method} {c : Code} {b L : Nat} {xs : Nat → Int32} {D : va_G} {cI cB : ClassId} {P : Nat → Nat} {bb : Nat} {A1 A2 A : Nat → Nat} {i cells slots : Nat} (C0 : LC p s m meth c b L xs D cI cB) (hL : L ≤ 3072) (hi : i + 6 ≤ L) (hc : cells + 19 ≤ 600000) (hs : slots + 2988 ≤ 7302250) (K : Go p l e s m below meth c b D cI cB P bb A1 A2 A i 674 (cells + 19) (slots + 2988)) : Go p l e s m below meth c b D cI cB P bb A1 A2 A i 414 cells slots := by
  obtain ⟨hx, hb, hr, hml, hown, hts, hX, hbl, hlocks, hK, hN⟩ := C0
  intro tw tp t ap r1 r2 I r H locs ls hS hH hl
  have hA : ∀ q : Nat, s.heap.size ≤ q → (fun q : Nat => s.heap.size ≤ q) q := fun _ h => h
  have hc0 : cells + 0 ≤ room_1.cells := Nat.le_trans (Nat.le_add_right _ 19) hc
  have hs0 : slots + 0 ≤ room_1.slots := Nat.le_trans (Nat.le_add_right _ 2988) hs
  have hH : Hd D (fun q : Nat => s.heap.size ≤ q) s (pwW P bb A1 A2 cI cB tw (imF I) tp t ap r1 r2 ++ (modelW A cI r ++ imgsW cI I)) H locs := hH
  obtain ⟨⟨n51, n52⟩, ⟨tw0, tw5⟩, ⟨o1, o2⟩, ⟨ok0, ok1⟩, T0, m2, e4, t6, b0, b1, e8, m20⟩ := sim_side hS
  refine lv_aload_n hx hb dL_law_414 rfl (lv_at hl 1 rfl) ?_
  refine lv_aload_n hx hb dL_law_415 rfl (lv_at hl 0 rfl) ?_
  refine lv_iload_n hx hb dL_law_416 rfl (lv_at hl 3 rfl) ?_
  refine lv_iconst (v := 1) hx hb dL_law_417 (by decide) ?_
  refine lv_iadd hx hb dL_law_418 ?_
  refine x_sld hx hb hX hbl hH (i + 1) (by omega) hL (nI_add i 1) dL_law_419 ?_
  refine kSI (va_runV (As := [.int (xs (i + 1))]) (rest := []) ⟨hx, hb, hml, hown, hts⟩ (c_X5_row l D cI cB P bb A1 A2 tw (imF I) tp t ap r1 r2 (xs (i + 1)) _) (cwV 1 hts gL_law_X5_row rfl rfl rfl (by decide +kernel) ⟨Nat.le_of_ble_eq_true rfl, Nat.le_of_ble_eq_true rfl⟩) (preV_pre (ci := 5) hH.1.left hH.2.1.left hK hN rfl 0 rfl) rfl rfl hl.1 rfl (lv_room (Nat.le_of_ble_eq_true rfl)) dL_law_420 ⟨hc0, hs0⟩) ?_
  refine lv_aload_n hx hb dL_law_423 rfl (lv_at hl 2 rfl) ?_
  refine lv_aload_n hx hb dL_law_424 rfl (lv_at hl 0 rfl) ?_
  refine lv_iload_n hx hb dL_law_425 rfl (lv_at hl 3 rfl) ?_
  refine lv_iconst (v := 1) hx hb dL_law_426 (by decide) ?_
  refine lv_iadd hx hb dL_law_427 ?_
  refine x_sld hx hb hX hbl hH (i + 1) (by omega) hL (nI_add i 1) dL_law_428 ?_
  have hG : Hd D (fun q : Nat => s.heap.size ≤ q) s (modelW A cI r ++ (pwW P bb A1 A2 cI cB tw (imF I) tp t ap r1 r2 ++ imgsW cI I)) _ _ := hH.perm (List.perm_append_comm_assoc _ _ _)
  refine kSI (va_runV (As := [.int (xs (i + 1))]) (rest := [.int _]) ⟨hx, hb, hml, hown, hts⟩ (c_X6_row l D cI cB A r (xs (i + 1)) _) (cwV 1 hts gL_law_X6_row rfl rfl rfl (by decide +kernel) ⟨Nat.le_of_ble_eq_true rfl, Nat.le_of_ble_eq_true rfl⟩) (preV_pre (ci := 6) hG.1.left hG.2.1.left hK hN rfl 0 rfl) rfl rfl hl.1 rfl (lv_room (Nat.le_of_ble_eq_true rfl)) dL_law_429 ⟨hc0, hs0⟩) ?_
  refine lv_icmp_eq (tgt := 674) hx hb dL_law_432 (by decide) (fun c_9 => ?_) (fun c_9 => ?_)
  · exact W.widen (Nat.le_add_right _ _) (Nat.le_add_right _ _) (K _ _ _ _ _ _ _ _ _ _ _ (hS) hH (lv_sub hl [0, 1, 2, 3] rfl))
  · exact absurd (sim_row hS (xs (i + 1))) c_9

set_option maxHeartbeats 1000000 in
set_option maxRecDepth 100000 in
theorem law_period {p : Program} {l : Launch} {e : Env} {s : State} {m : MethodId} {below : List Frame} {meth : Method} {c : Code} {b L : Nat} {xs : Nat → Int32} {D : va_G} {cI cB : ClassId} {P : Nat → Nat} {bb : Nat} {A1 A2 A : Nat → Nat} {i cells slots : Nat} (C0 : LC p s m meth c b L xs D cI cB) (hL : L ≤ 3072) (hi : i + 6 ≤ L) (hc : cells + 19 ≤ 600000) (hs : slots + 2988 ≤ 7302250) (K : Go p l e s m below meth c b D cI cB P bb A1 A2 A i 674 (cells + 19) (slots + 2988)) : Go p l e s m below meth c b D cI cB P bb A1 A2 A i 437 cells slots := by
  obtain ⟨hx, hb, hr, hml, hown, hts, hX, hbl, hlocks, hK, hN⟩ := C0
  intro tw tp t ap r1 r2 I r H locs ls hS hH hl
  have hA : ∀ q : Nat, s.heap.size ≤ q → (fun q : Nat => s.heap.size ≤ q) q := fun _ h => h
  have hc0 : cells + 0 ≤ room_1.cells := Nat.le_trans (Nat.le_add_right _ 19) hc
  have hs0 : slots + 0 ≤ room_1.slots := Nat.le_trans (Nat.le_add_right _ 2988) hs
  have hH : Hd D (fun q : Nat => s.heap.size ≤ q) s (pwW P bb A1 A2 cI cB tw (imF I) tp t ap r1 r2 ++ (modelW A cI r ++ imgsW cI I)) H locs := hH
  obtain ⟨⟨n51, n52⟩, ⟨tw0, tw5⟩, ⟨o1, o2⟩, ⟨ok0, ok1⟩, T0, m2, e4, t6, b0, b1, e8, m20⟩ := sim_side hS
  refine lv_aload_n hx hb dL_law_437 rfl (lv_at hl 1 rfl) ?_
  refine lv_aload_n hx hb dL_law_438 rfl (lv_at hl 0 rfl) ?_
  refine lv_iload_n hx hb dL_law_439 rfl (lv_at hl 3 rfl) ?_
  refine lv_iconst (v := 1) hx hb dL_law_440 (by decide) ?_
  refine lv_iadd hx hb dL_law_441 ?_
  refine x_sld hx hb hX hbl hH (i + 1) (by omega) hL (nI_add i 1) dL_law_442 ?_
  refine lv_aload_n hx hb dL_law_443 rfl (lv_at hl 0 rfl) ?_
  refine lv_iload_n hx hb dL_law_444 rfl (lv_at hl 3 rfl) ?_
  refine lv_iconst (v := 2) hx hb dL_law_445 (by decide) ?_
  refine lv_iadd hx hb dL_law_446 ?_
  refine x_sld hx hb hX hbl hH (i + 2) (by omega) hL (nI_add i 2) dL_law_447 ?_
  refine lv_aload_n hx hb dL_law_448 rfl (lv_at hl 0 rfl) ?_
  refine lv_iload_n hx hb dL_law_449 rfl (lv_at hl 3 rfl) ?_
  refine lv_iconst (v := 3) hx hb dL_law_450 (by decide) ?_
  refine lv_iadd hx hb dL_law_451 ?_
  refine x_sld hx hb hX hbl hH (i + 3) (by omega) hL (nI_add i 3) dL_law_452 ?_
  refine kCJ (va_runV (As := [.int (xs (i + 1)), .int (xs (i + 2)), .int (xs (i + 3))]) (rest := []) ⟨hx, hb, hml, hown, hts⟩ (c_X5_period l D cI cB P bb A1 A2 tw (imF I) tp t ap r1 r2 (xs (i + 1)) (xs (i + 2)) (xs (i + 3)) _) (cwV 3 hts gL_law_X5_period rfl rfl rfl (by decide +kernel) ⟨Nat.le_of_ble_eq_true rfl, Nat.le_of_ble_eq_true rfl⟩) (preV_pre (ci := 5) hH.1.left hH.2.1.left hK hN rfl 0 rfl) rfl rfl hl.1 rfl (lv_room (Nat.le_of_ble_eq_true rfl)) dL_law_453 ⟨by show cells + 1 ≤ 600000; omega, by show slots + 4 ≤ 7302250; omega⟩) hH hA (fun x w1 H locs hp hH => ?_)
  obtain ⟨hp1, hp2⟩ := hp
  subst hp2
  have hc0 : cells + 1 + 0 ≤ room_1.cells := by show cells + 1 + 0 ≤ 600000; omega
  have hs0 : slots + 4 + 0 ≤ room_1.slots := by show slots + 4 + 0 ≤ 7302250; omega
  refine lv_aload_n hx hb dL_law_456 rfl (lv_at hl 2 rfl) ?_
  refine lv_aload_n hx hb dL_law_457 rfl (lv_at hl 0 rfl) ?_
  refine lv_iload_n hx hb dL_law_458 rfl (lv_at hl 3 rfl) ?_
  refine lv_iconst (v := 1) hx hb dL_law_459 (by decide) ?_
  refine lv_iadd hx hb dL_law_460 ?_
  refine x_sld hx hb hX hbl hH (i + 1) (by omega) hL (nI_add i 1) dL_law_461 ?_
  refine lv_aload_n hx hb dL_law_462 rfl (lv_at hl 0 rfl) ?_
  refine lv_iload_n hx hb dL_law_463 rfl (lv_at hl 3 rfl) ?_
  refine lv_iconst (v := 2) hx hb dL_law_464 (by decide) ?_
  refine lv_iadd hx hb dL_law_465 ?_
  refine x_sld hx hb hX hbl hH (i + 2) (by omega) hL (nI_add i 2) dL_law_466 ?_
  refine lv_aload_n hx hb dL_law_467 rfl (lv_at hl 0 rfl) ?_
  refine lv_iload_n hx hb dL_law_468 rfl (lv_at hl 3 rfl) ?_
  refine lv_iconst (v := 3) hx hb dL_law_469 (by decide) ?_
  refine lv_iadd hx hb dL_law_470 ?_
  refine x_sld hx hb hX hbl hH (i + 3) (by omega) hL (nI_add i 3) dL_law_471 ?_
  have hG : Hd D (fun q : Nat => s.heap.size ≤ q) s (modelW A cI r ++ (pwW P bb A1 A2 cI cB tw (imF I) tp t ap r1 r2 ++ imgsW cI I)) _ _ := hH.perm (List.perm_append_comm_assoc _ _ _)
  refine kSI (va_runV (As := [.int (xs (i + 1)), .int (xs (i + 2)), .int (xs (i + 3))]) (rest := [.int x]) ⟨hx, hb, hml, hown, hts⟩ (c_X6_period l D cI cB A r (xs (i + 1)) (xs (i + 2)) (xs (i + 3)) ok0 ok1 _) (cwV 3 hts gL_law_X6_period rfl rfl rfl (by decide +kernel) ⟨Nat.le_of_ble_eq_true rfl, Nat.le_of_ble_eq_true rfl⟩) (preV_pre (ci := 6) hG.1.left hG.2.1.left hK hN rfl 0 rfl) rfl rfl hl.1 rfl (lv_room (Nat.le_of_ble_eq_true rfl)) dL_law_472 ⟨hc0, hs0⟩) ?_
  refine lv_icmp_eq (tgt := 674) hx hb dL_law_475 (by decide) (fun c_9 => ?_) (fun c_9 => ?_)
  · exact W.widen (show cells + 1 ≤ cells + 19 by omega) (show slots + 4 ≤ slots + 2988 by omega) (K _ _ _ _ _ _ _ _ _ _ _ hS hH (lv_sub hl [0, 1, 2, 3] rfl))
  · exact absurd (hp1.trans (sim_period hS (xs (i + 1)) (xs (i + 2)) (xs (i + 3)))) c_9

set_option maxHeartbeats 1000000 in
set_option maxRecDepth 100000 in
theorem law_moved {p : Program} {l : Launch} {e : Env} {s : State} {m : MethodId} {below : List Frame} {meth : Method} {c : Code} {b L : Nat} {xs : Nat → Int32} {D : va_G} {cI cB : ClassId} {P : Nat → Nat} {bb : Nat} {A1 A2 A : Nat → Nat} {i cells slots : Nat} (C0 : LC p s m meth c b L xs D cI cB) (hL : L ≤ 3072) (hi : i + 6 ≤ L) (hc : cells + 19 ≤ 600000) (hs : slots + 2988 ≤ 7302250) (K : Go p l e s m below meth c b D cI cB P bb A1 A2 A i 674 (cells + 19) (slots + 2988)) : Go p l e s m below meth c b D cI cB P bb A1 A2 A i 480 cells slots := by
  obtain ⟨hx, hb, hr, hml, hown, hts, hX, hbl, hlocks, hK, hN⟩ := C0
  intro tw tp t ap r1 r2 I r H locs ls hS hH hl
  have hA : ∀ q : Nat, s.heap.size ≤ q → (fun q : Nat => s.heap.size ≤ q) q := fun _ h => h
  have hc0 : cells + 0 ≤ room_1.cells := Nat.le_trans (Nat.le_add_right _ 19) hc
  have hs0 : slots + 0 ≤ room_1.slots := Nat.le_trans (Nat.le_add_right _ 2988) hs
  have hH : Hd D (fun q : Nat => s.heap.size ≤ q) s (pwW P bb A1 A2 cI cB tw (imF I) tp t ap r1 r2 ++ (modelW A cI r ++ imgsW cI I)) H locs := hH
  obtain ⟨⟨n51, n52⟩, ⟨tw0, tw5⟩, ⟨o1, o2⟩, ⟨ok0, ok1⟩, T0, m2, e4, t6, b0, b1, e8, m20⟩ := sim_side hS
  refine lv_aload_n hx hb dL_law_480 rfl (lv_at hl 1 rfl) ?_
  refine lv_aload_n hx hb dL_law_481 rfl (lv_at hl 0 rfl) ?_
  refine lv_iload_n hx hb dL_law_482 rfl (lv_at hl 3 rfl) ?_
  refine lv_iconst (v := 1) hx hb dL_law_483 (by decide) ?_
  refine lv_iadd hx hb dL_law_484 ?_
  refine x_sld hx hb hX hbl hH (i + 1) (by omega) hL (nI_add i 1) dL_law_485 ?_
  refine lv_aload_n hx hb dL_law_486 rfl (lv_at hl 0 rfl) ?_
  refine lv_iload_n hx hb dL_law_487 rfl (lv_at hl 3 rfl) ?_
  refine lv_iconst (v := 2) hx hb dL_law_488 (by decide) ?_
  refine lv_iadd hx hb dL_law_489 ?_
  refine x_sld hx hb hX hbl hH (i + 2) (by omega) hL (nI_add i 2) dL_law_490 ?_
  refine kSI (va_runV (As := [.int (xs (i + 1)), .int (xs (i + 2))]) (rest := []) ⟨hx, hb, hml, hown, hts⟩ (c_X5_moved l D cI cB P bb A1 A2 tw (imF I) tp t ap r1 r2 (xs (i + 1)) (xs (i + 2)) _) (cwV 2 hts gL_law_X5_moved rfl rfl rfl (by decide +kernel) ⟨Nat.le_of_ble_eq_true rfl, Nat.le_of_ble_eq_true rfl⟩) (preV_pre (ci := 5) hH.1.left hH.2.1.left hK hN rfl 0 rfl) rfl rfl hl.1 rfl (lv_room (Nat.le_of_ble_eq_true rfl)) dL_law_491 ⟨hc0, hs0⟩) ?_
  refine lv_aload_n hx hb dL_law_494 rfl (lv_at hl 2 rfl) ?_
  refine lv_aload_n hx hb dL_law_495 rfl (lv_at hl 0 rfl) ?_
  refine lv_iload_n hx hb dL_law_496 rfl (lv_at hl 3 rfl) ?_
  refine lv_iconst (v := 1) hx hb dL_law_497 (by decide) ?_
  refine lv_iadd hx hb dL_law_498 ?_
  refine x_sld hx hb hX hbl hH (i + 1) (by omega) hL (nI_add i 1) dL_law_499 ?_
  refine lv_aload_n hx hb dL_law_500 rfl (lv_at hl 0 rfl) ?_
  refine lv_iload_n hx hb dL_law_501 rfl (lv_at hl 3 rfl) ?_
  refine lv_iconst (v := 2) hx hb dL_law_502 (by decide) ?_
  refine lv_iadd hx hb dL_law_503 ?_
  refine x_sld hx hb hX hbl hH (i + 2) (by omega) hL (nI_add i 2) dL_law_504 ?_
  have hG : Hd D (fun q : Nat => s.heap.size ≤ q) s (modelW A cI r ++ (pwW P bb A1 A2 cI cB tw (imF I) tp t ap r1 r2 ++ imgsW cI I)) _ _ := hH.perm (List.perm_append_comm_assoc _ _ _)
  refine kSI (va_runV (As := [.int (xs (i + 1)), .int (xs (i + 2))]) (rest := [.int _]) ⟨hx, hb, hml, hown, hts⟩ (c_X6_moved l D cI cB A r (xs (i + 1)) (xs (i + 2)) ok0 ok1 _) (cwV 2 hts gL_law_X6_moved rfl rfl rfl (by decide +kernel) ⟨Nat.le_of_ble_eq_true rfl, Nat.le_of_ble_eq_true rfl⟩) (preV_pre (ci := 6) hG.1.left hG.2.1.left hK hN rfl 0 rfl) rfl rfl hl.1 rfl (lv_room (Nat.le_of_ble_eq_true rfl)) dL_law_505 ⟨hc0, hs0⟩) ?_
  refine lv_icmp_eq (tgt := 674) hx hb dL_law_508 (by decide) (fun c_9 => ?_) (fun c_9 => ?_)
  · exact W.widen (Nat.le_add_right _ _) (Nat.le_add_right _ _) (K _ _ _ _ _ _ _ _ _ _ _ (hS) hH (lv_sub hl [0, 1, 2, 3] rfl))
  · exact absurd (sim_moved hS (xs (i + 1)) (xs (i + 2))) c_9

set_option maxHeartbeats 1000000 in
set_option maxRecDepth 100000 in
theorem law_tooth {p : Program} {l : Launch} {e : Env} {s : State} {m : MethodId} {below : List Frame} {meth : Method} {c : Code} {b L : Nat} {xs : Nat → Int32} {D : va_G} {cI cB : ClassId} {P : Nat → Nat} {bb : Nat} {A1 A2 A : Nat → Nat} {i cells slots : Nat} (C0 : LC p s m meth c b L xs D cI cB) (hL : L ≤ 3072) (hi : i + 6 ≤ L) (hc : cells + 19 ≤ 600000) (hs : slots + 2988 ≤ 7302250) (K : Go p l e s m below meth c b D cI cB P bb A1 A2 A i 674 (cells + 19) (slots + 2988)) : Go p l e s m below meth c b D cI cB P bb A1 A2 A i 513 cells slots := by
  obtain ⟨hx, hb, hr, hml, hown, hts, hX, hbl, hlocks, hK, hN⟩ := C0
  intro tw tp t ap r1 r2 I r H locs ls hS hH hl
  have hA : ∀ q : Nat, s.heap.size ≤ q → (fun q : Nat => s.heap.size ≤ q) q := fun _ h => h
  have hc0 : cells + 0 ≤ room_1.cells := Nat.le_trans (Nat.le_add_right _ 19) hc
  have hs0 : slots + 0 ≤ room_1.slots := Nat.le_trans (Nat.le_add_right _ 2988) hs
  have hH : Hd D (fun q : Nat => s.heap.size ≤ q) s (pwW P bb A1 A2 cI cB tw (imF I) tp t ap r1 r2 ++ (modelW A cI r ++ imgsW cI I)) H locs := hH
  obtain ⟨⟨n51, n52⟩, ⟨tw0, tw5⟩, ⟨o1, o2⟩, ⟨ok0, ok1⟩, T0, m2, e4, t6, b0, b1, e8, m20⟩ := sim_side hS
  refine lv_aload_n hx hb dL_law_513 rfl (lv_at hl 1 rfl) ?_
  refine lv_aload_n hx hb dL_law_514 rfl (lv_at hl 0 rfl) ?_
  refine lv_iload_n hx hb dL_law_515 rfl (lv_at hl 3 rfl) ?_
  refine lv_iconst (v := 1) hx hb dL_law_516 (by decide) ?_
  refine lv_iadd hx hb dL_law_517 ?_
  refine x_sld hx hb hX hbl hH (i + 1) (by omega) hL (nI_add i 1) dL_law_518 ?_
  refine lv_aload_n hx hb dL_law_519 rfl (lv_at hl 0 rfl) ?_
  refine lv_iload_n hx hb dL_law_520 rfl (lv_at hl 3 rfl) ?_
  refine lv_iconst (v := 2) hx hb dL_law_521 (by decide) ?_
  refine lv_iadd hx hb dL_law_522 ?_
  refine x_sld hx hb hX hbl hH (i + 2) (by omega) hL (nI_add i 2) dL_law_523 ?_
  refine kSI (va_runV (As := [.int (xs (i + 1)), .int (xs (i + 2))]) (rest := []) ⟨hx, hb, hml, hown, hts⟩ (c_X5_tooth l D cI cB P bb A1 A2 tw (imF I) tp t ap r1 r2 (xs (i + 1)) (xs (i + 2)) _) (cwV 2 hts gL_law_X5_tooth rfl rfl rfl (by decide +kernel) ⟨Nat.le_of_ble_eq_true rfl, Nat.le_of_ble_eq_true rfl⟩) (preV_pre (ci := 5) hH.1.left hH.2.1.left hK hN rfl 0 rfl) rfl rfl hl.1 rfl (lv_room (Nat.le_of_ble_eq_true rfl)) dL_law_524 ⟨hc0, hs0⟩) ?_
  refine lv_aload_n hx hb dL_law_527 rfl (lv_at hl 2 rfl) ?_
  refine lv_aload_n hx hb dL_law_528 rfl (lv_at hl 0 rfl) ?_
  refine lv_iload_n hx hb dL_law_529 rfl (lv_at hl 3 rfl) ?_
  refine lv_iconst (v := 1) hx hb dL_law_530 (by decide) ?_
  refine lv_iadd hx hb dL_law_531 ?_
  refine x_sld hx hb hX hbl hH (i + 1) (by omega) hL (nI_add i 1) dL_law_532 ?_
  refine lv_aload_n hx hb dL_law_533 rfl (lv_at hl 0 rfl) ?_
  refine lv_iload_n hx hb dL_law_534 rfl (lv_at hl 3 rfl) ?_
  refine lv_iconst (v := 2) hx hb dL_law_535 (by decide) ?_
  refine lv_iadd hx hb dL_law_536 ?_
  refine x_sld hx hb hX hbl hH (i + 2) (by omega) hL (nI_add i 2) dL_law_537 ?_
  have hG : Hd D (fun q : Nat => s.heap.size ≤ q) s (modelW A cI r ++ (pwW P bb A1 A2 cI cB tw (imF I) tp t ap r1 r2 ++ imgsW cI I)) _ _ := hH.perm (List.perm_append_comm_assoc _ _ _)
  refine kSI (va_runV (As := [.int (xs (i + 1)), .int (xs (i + 2))]) (rest := [.int _]) ⟨hx, hb, hml, hown, hts⟩ (c_X6_tooth l D cI cB A r (xs (i + 1)) (xs (i + 2)) ok0 ok1 _) (cwV 2 hts gL_law_X6_tooth rfl rfl rfl (by decide +kernel) ⟨Nat.le_of_ble_eq_true rfl, Nat.le_of_ble_eq_true rfl⟩) (preV_pre (ci := 6) hG.1.left hG.2.1.left hK hN rfl 0 rfl) rfl rfl hl.1 rfl (lv_room (Nat.le_of_ble_eq_true rfl)) dL_law_538 ⟨hc0, hs0⟩) ?_
  refine lv_icmp_eq (tgt := 674) hx hb dL_law_541 (by decide) (fun c_9 => ?_) (fun c_9 => ?_)
  · exact W.widen (Nat.le_add_right _ _) (Nat.le_add_right _ _) (K _ _ _ _ _ _ _ _ _ _ _ (hS) hH (lv_sub hl [0, 1, 2, 3] rfl))
  · exact absurd (sim_tooth hS (xs (i + 1)) (xs (i + 2))) c_9

set_option maxHeartbeats 1000000 in
set_option maxRecDepth 100000 in
theorem law_wholes {p : Program} {l : Launch} {e : Env} {s : State} {m : MethodId} {below : List Frame} {meth : Method} {c : Code} {b L : Nat} {xs : Nat → Int32} {D : va_G} {cI cB : ClassId} {P : Nat → Nat} {bb : Nat} {A1 A2 A : Nat → Nat} {i cells slots : Nat} (C0 : LC p s m meth c b L xs D cI cB) (hL : L ≤ 3072) (hi : i + 6 ≤ L) (hc : cells + 19 ≤ 600000) (hs : slots + 2988 ≤ 7302250) (K : Go p l e s m below meth c b D cI cB P bb A1 A2 A i 674 (cells + 19) (slots + 2988)) : Go p l e s m below meth c b D cI cB P bb A1 A2 A i 546 cells slots := by
  obtain ⟨hx, hb, hr, hml, hown, hts, hX, hbl, hlocks, hK, hN⟩ := C0
  intro tw tp t ap r1 r2 I r H locs ls hS hH hl
  have hA : ∀ q : Nat, s.heap.size ≤ q → (fun q : Nat => s.heap.size ≤ q) q := fun _ h => h
  have hc0 : cells + 0 ≤ room_1.cells := Nat.le_trans (Nat.le_add_right _ 19) hc
  have hs0 : slots + 0 ≤ room_1.slots := Nat.le_trans (Nat.le_add_right _ 2988) hs
  have hH : Hd D (fun q : Nat => s.heap.size ≤ q) s (pwW P bb A1 A2 cI cB tw (imF I) tp t ap r1 r2 ++ (modelW A cI r ++ imgsW cI I)) H locs := hH
  obtain ⟨⟨n51, n52⟩, ⟨tw0, tw5⟩, ⟨o1, o2⟩, ⟨ok0, ok1⟩, T0, m2, e4, t6, b0, b1, e8, m20⟩ := sim_side hS
  refine lv_aload_n hx hb dL_law_546 rfl (lv_at hl 1 rfl) ?_
  refine lv_aload_n hx hb dL_law_547 rfl (lv_at hl 0 rfl) ?_
  refine lv_iload_n hx hb dL_law_548 rfl (lv_at hl 3 rfl) ?_
  refine lv_iconst (v := 1) hx hb dL_law_549 (by decide) ?_
  refine lv_iadd hx hb dL_law_550 ?_
  refine x_sld hx hb hX hbl hH (i + 1) (by omega) hL (nI_add i 1) dL_law_551 ?_
  refine kSI (va_runV (As := [.int (xs (i + 1))]) (rest := []) ⟨hx, hb, hml, hown, hts⟩ (c_X5_wholes l D cI cB P bb A1 A2 tw (imF I) tp t ap r1 r2 (xs (i + 1)) _) (cwV 1 hts gL_law_X5_wholes rfl rfl rfl (by decide +kernel) ⟨Nat.le_of_ble_eq_true rfl, Nat.le_of_ble_eq_true rfl⟩) (preV_pre (ci := 5) hH.1.left hH.2.1.left hK hN rfl 0 rfl) rfl rfl hl.1 rfl (lv_room (Nat.le_of_ble_eq_true rfl)) dL_law_552 ⟨hc0, hs0⟩) ?_
  refine lv_aload_n hx hb dL_law_555 rfl (lv_at hl 2 rfl) ?_
  refine lv_aload_n hx hb dL_law_556 rfl (lv_at hl 0 rfl) ?_
  refine lv_iload_n hx hb dL_law_557 rfl (lv_at hl 3 rfl) ?_
  refine lv_iconst (v := 1) hx hb dL_law_558 (by decide) ?_
  refine lv_iadd hx hb dL_law_559 ?_
  refine x_sld hx hb hX hbl hH (i + 1) (by omega) hL (nI_add i 1) dL_law_560 ?_
  have hG : Hd D (fun q : Nat => s.heap.size ≤ q) s (modelW A cI r ++ (pwW P bb A1 A2 cI cB tw (imF I) tp t ap r1 r2 ++ imgsW cI I)) _ _ := hH.perm (List.perm_append_comm_assoc _ _ _)
  refine kSI (va_runV (As := [.int (xs (i + 1))]) (rest := [.int _]) ⟨hx, hb, hml, hown, hts⟩ (c_X6_wholes l D cI cB A r (xs (i + 1)) _) (cwV 1 hts gL_law_X6_wholes rfl rfl rfl (by decide +kernel) ⟨Nat.le_of_ble_eq_true rfl, Nat.le_of_ble_eq_true rfl⟩) (preV_pre (ci := 6) hG.1.left hG.2.1.left hK hN rfl 0 rfl) rfl rfl hl.1 rfl (lv_room (Nat.le_of_ble_eq_true rfl)) dL_law_561 ⟨hc0, hs0⟩) ?_
  refine lv_icmp_eq (tgt := 674) hx hb dL_law_564 (by decide) (fun c_9 => ?_) (fun c_9 => ?_)
  · exact W.widen (Nat.le_add_right _ _) (Nat.le_add_right _ _) (K _ _ _ _ _ _ _ _ _ _ _ (hS) hH (lv_sub hl [0, 1, 2, 3] rfl))
  · exact absurd (sim_wholes hS (xs (i + 1))) c_9

set_option maxHeartbeats 1000000 in
set_option maxRecDepth 100000 in
theorem law_widest {p : Program} {l : Launch} {e : Env} {s : State} {m : MethodId} {below : List Frame} {meth : Method} {c : Code} {b L : Nat} {xs : Nat → Int32} {D : va_G} {cI cB : ClassId} {P : Nat → Nat} {bb : Nat} {A1 A2 A : Nat → Nat} {i cells slots : Nat} (C0 : LC p s m meth c b L xs D cI cB) (hL : L ≤ 3072) (hi : i + 6 ≤ L) (hc : cells + 19 ≤ 600000) (hs : slots + 2988 ≤ 7302250) (K : Go p l e s m below meth c b D cI cB P bb A1 A2 A i 674 (cells + 19) (slots + 2988)) : Go p l e s m below meth c b D cI cB P bb A1 A2 A i 569 cells slots := by
  obtain ⟨hx, hb, hr, hml, hown, hts, hX, hbl, hlocks, hK, hN⟩ := C0
  intro tw tp t ap r1 r2 I r H locs ls hS hH hl
  have hA : ∀ q : Nat, s.heap.size ≤ q → (fun q : Nat => s.heap.size ≤ q) q := fun _ h => h
  have hc0 : cells + 0 ≤ room_1.cells := Nat.le_trans (Nat.le_add_right _ 19) hc
  have hs0 : slots + 0 ≤ room_1.slots := Nat.le_trans (Nat.le_add_right _ 2988) hs
  have hH : Hd D (fun q : Nat => s.heap.size ≤ q) s (pwW P bb A1 A2 cI cB tw (imF I) tp t ap r1 r2 ++ (modelW A cI r ++ imgsW cI I)) H locs := hH
  obtain ⟨⟨n51, n52⟩, ⟨tw0, tw5⟩, ⟨o1, o2⟩, ⟨ok0, ok1⟩, T0, m2, e4, t6, b0, b1, e8, m20⟩ := sim_side hS
  refine lv_aload_n hx hb dL_law_569 rfl (lv_at hl 1 rfl) ?_
  refine lv_aload_n hx hb dL_law_570 rfl (lv_at hl 0 rfl) ?_
  refine lv_iload_n hx hb dL_law_571 rfl (lv_at hl 3 rfl) ?_
  refine lv_iconst (v := 1) hx hb dL_law_572 (by decide) ?_
  refine lv_iadd hx hb dL_law_573 ?_
  refine x_sld hx hb hX hbl hH (i + 1) (by omega) hL (nI_add i 1) dL_law_574 ?_
  refine kSI (va_runV (As := [.int (xs (i + 1))]) (rest := []) ⟨hx, hb, hml, hown, hts⟩ (c_X5_widest l D cI cB P bb A1 A2 tw (imF I) tp t ap r1 r2 (xs (i + 1)) _) (cwV 1 hts gL_law_X5_widest rfl rfl rfl (by decide +kernel) ⟨Nat.le_of_ble_eq_true rfl, Nat.le_of_ble_eq_true rfl⟩) (preV_pre (ci := 5) hH.1.left hH.2.1.left hK hN rfl 0 rfl) rfl rfl hl.1 rfl (lv_room (Nat.le_of_ble_eq_true rfl)) dL_law_575 ⟨hc0, hs0⟩) ?_
  refine lv_aload_n hx hb dL_law_578 rfl (lv_at hl 2 rfl) ?_
  refine lv_aload_n hx hb dL_law_579 rfl (lv_at hl 0 rfl) ?_
  refine lv_iload_n hx hb dL_law_580 rfl (lv_at hl 3 rfl) ?_
  refine lv_iconst (v := 1) hx hb dL_law_581 (by decide) ?_
  refine lv_iadd hx hb dL_law_582 ?_
  refine x_sld hx hb hX hbl hH (i + 1) (by omega) hL (nI_add i 1) dL_law_583 ?_
  have hG : Hd D (fun q : Nat => s.heap.size ≤ q) s (modelW A cI r ++ (pwW P bb A1 A2 cI cB tw (imF I) tp t ap r1 r2 ++ imgsW cI I)) _ _ := hH.perm (List.perm_append_comm_assoc _ _ _)
  refine kSI (va_runV (As := [.int (xs (i + 1))]) (rest := [.int _]) ⟨hx, hb, hml, hown, hts⟩ (c_X6_widest l D cI cB A r (xs (i + 1)) ok0 ok1 _) (cwV 1 hts gL_law_X6_widest rfl rfl rfl (by decide +kernel) ⟨Nat.le_of_ble_eq_true rfl, Nat.le_of_ble_eq_true rfl⟩) (preV_pre (ci := 6) hG.1.left hG.2.1.left hK hN rfl 0 rfl) rfl rfl hl.1 rfl (lv_room (Nat.le_of_ble_eq_true rfl)) dL_law_584 ⟨hc0, hs0⟩) ?_
  refine lv_icmp_eq (tgt := 674) hx hb dL_law_587 (by decide) (fun c_9 => ?_) (fun c_9 => ?_)
  · exact W.widen (Nat.le_add_right _ _) (Nat.le_add_right _ _) (K _ _ _ _ _ _ _ _ _ _ _ (hS) hH (lv_sub hl [0, 1, 2, 3] rfl))
  · exact absurd (sim_widest hS (xs (i + 1))) c_9

set_option maxHeartbeats 1000000 in
set_option maxRecDepth 100000 in
theorem law_apart {p : Program} {l : Launch} {e : Env} {s : State} {m : MethodId} {below : List Frame} {meth : Method} {c : Code} {b L : Nat} {xs : Nat → Int32} {D : va_G} {cI cB : ClassId} {P : Nat → Nat} {bb : Nat} {A1 A2 A : Nat → Nat} {i cells slots : Nat} (C0 : LC p s m meth c b L xs D cI cB) (hL : L ≤ 3072) (hi : i + 6 ≤ L) (hc : cells + 19 ≤ 600000) (hs : slots + 2988 ≤ 7302250) (K : Go p l e s m below meth c b D cI cB P bb A1 A2 A i 674 (cells + 19) (slots + 2988)) : Go p l e s m below meth c b D cI cB P bb A1 A2 A i 592 cells slots := by
  obtain ⟨hx, hb, hr, hml, hown, hts, hX, hbl, hlocks, hK, hN⟩ := C0
  intro tw tp t ap r1 r2 I r H locs ls hS hH hl
  have hA : ∀ q : Nat, s.heap.size ≤ q → (fun q : Nat => s.heap.size ≤ q) q := fun _ h => h
  have hc0 : cells + 0 ≤ room_1.cells := Nat.le_trans (Nat.le_add_right _ 19) hc
  have hs0 : slots + 0 ≤ room_1.slots := Nat.le_trans (Nat.le_add_right _ 2988) hs
  have hH : Hd D (fun q : Nat => s.heap.size ≤ q) s (pwW P bb A1 A2 cI cB tw (imF I) tp t ap r1 r2 ++ (modelW A cI r ++ imgsW cI I)) H locs := hH
  obtain ⟨⟨n51, n52⟩, ⟨tw0, tw5⟩, ⟨o1, o2⟩, ⟨ok0, ok1⟩, T0, m2, e4, t6, b0, b1, e8, m20⟩ := sim_side hS
  refine lv_aload_n hx hb dL_law_592 rfl (lv_at hl 1 rfl) ?_
  refine kSI (va_runV (As := []) (rest := []) ⟨hx, hb, hml, hown, hts⟩ (c_X5_apart l D cI cB P bb A1 A2 tw (imF I) tp t ap r1 r2  _) (cwV 0 hts gL_law_X5_apart rfl rfl rfl (by decide +kernel) ⟨Nat.le_of_ble_eq_true rfl, Nat.le_of_ble_eq_true rfl⟩) (preV_pre (ci := 5) hH.1.left hH.2.1.left hK hN rfl 0 rfl) rfl rfl hl.1 rfl (lv_room (Nat.le_of_ble_eq_true rfl)) dL_law_593 ⟨hc0, hs0⟩) ?_
  refine lv_aload_n hx hb dL_law_596 rfl (lv_at hl 2 rfl) ?_
  have hG : Hd D (fun q : Nat => s.heap.size ≤ q) s (modelW A cI r ++ (pwW P bb A1 A2 cI cB tw (imF I) tp t ap r1 r2 ++ imgsW cI I)) _ _ := hH.perm (List.perm_append_comm_assoc _ _ _)
  refine kSI (va_runV (As := []) (rest := [.int _]) ⟨hx, hb, hml, hown, hts⟩ (c_X6_apart l D cI cB A r  _) (cwV 0 hts gL_law_X6_apart rfl rfl rfl (by decide +kernel) ⟨Nat.le_of_ble_eq_true rfl, Nat.le_of_ble_eq_true rfl⟩) (preV_pre (ci := 6) hG.1.left hG.2.1.left hK hN rfl 0 rfl) rfl rfl hl.1 rfl (lv_room (Nat.le_of_ble_eq_true rfl)) dL_law_597 ⟨hc0, hs0⟩) ?_
  refine lv_icmp_eq (tgt := 674) hx hb dL_law_600 (by decide) (fun c_9 => ?_) (fun c_9 => ?_)
  · exact W.widen (Nat.le_add_right _ _) (Nat.le_add_right _ _) (K _ _ _ _ _ _ _ _ _ _ _ (hS) hH (lv_sub hl [0, 1, 2, 3] rfl))
  · exact absurd (sim_apart hS) c_9

theorem adr_pwimg {P : Nat → Nat} {b bq : Nat} {A1 A2 B1 B2 : Nat → Nat} {cI cB : ClassId} {tw t ap u aq u' aq' : Int32} {im : Nat → Option Nat} {tp : Nat → Int32} {r1 r2 q1 q2 q1' q2' : Tb} : (pwW P b A1 A2 cI cB tw im tp t ap r1 r2 ++ benchW bq B1 B2 cI u' aq' q1' q2').map (fun q => q.1) = (pwW P b A1 A2 cI cB tw im tp t ap r1 r2 ++ benchW bq B1 B2 cI u aq q1 q2).map (fun q => q.1) := rfl
theorem adr_pwimg2 {P : Nat → Nat} {b bq : Nat} {A1 A2 B1 B2 : Nat → Nat} {cI cB : ClassId} {tw t ap u aq t' ap' : Int32} {im : Nat → Option Nat} {tp : Nat → Int32} {r1 r2 q1 q2 r1' r2' : Tb} : (pwW P b A1 A2 cI cB tw im tp t' ap' r1' r2' ++ benchW bq B1 B2 cI u aq q1 q2).map (fun q => q.1) = (pwW P b A1 A2 cI cB tw im tp t ap r1 r2 ++ benchW bq B1 B2 cI u aq q1 q2).map (fun q => q.1) := rfl
theorem keep_outR {r : Tb} {k : Int32} (h : k < 0 ∨ 4 ≤ k) : keepMR r k = r := by
  unfold keepMR
  by_cases h0 : k < 0
  · rw [if_pos h0]
  · rw [if_neg h0, if_neg (Int32.not_lt.mpr (h.resolve_left h0))]
theorem keep_outV {k : Int32} (h : k < 0 ∨ 4 ≤ k) : keepMV k = 0 := by
  unfold keepMV
  by_cases h0 : k < 0
  · rw [if_pos h0]
  · rw [if_neg h0, if_neg (Int32.not_lt.mpr (h.resolve_left h0))]
theorem back_outR {r : Tb} {k : Int32} (h : k < 0 ∨ 4 ≤ k) : backMR r k = r := by
  unfold backMR
  by_cases h0 : k < 0
  · rw [if_pos h0]
  · rw [if_neg h0, if_pos (h.resolve_left h0)]
theorem back_outV {r : Tb} {k : Int32} (h : k < 0 ∨ 4 ≤ k) : backMV r k = 0 := by
  unfold backMV
  by_cases h0 : k < 0
  · rw [if_pos h0]
  · rw [if_neg h0, if_pos (h.resolve_left h0)]

set_option maxHeartbeats 1000000 in
set_option maxRecDepth 100000 in
theorem law_keep {p : Program} {l : Launch} {e : Env} {s : State} {m : MethodId} {below : List Frame} {meth : Method} {c : Code} {b L : Nat} {xs : Nat → Int32} {D : va_G} {cI cB : ClassId} {P : Nat → Nat} {bb : Nat} {A1 A2 A : Nat → Nat} {i cells slots : Nat} (C0 : LC p s m meth c b L xs D cI cB) (hL : L ≤ 3072) (hi : i + 6 ≤ L) (hc : cells + 19 ≤ 600000) (hs : slots + 2988 ≤ 7302250) (K : Go p l e s m below meth c b D cI cB P bb A1 A2 A i 674 (cells + 19) (slots + 2988)) : Go p l e s m below meth c b D cI cB P bb A1 A2 A i 605 cells slots := by
  obtain ⟨hx, hb, hr, hml, hown, hts, hX, hbl, hlocks, hK, hN⟩ := C0
  intro tw tp t ap r1 r2 I r H locs ls hS hH hl
  have hA : ∀ q : Nat, s.heap.size ≤ q → (fun q : Nat => s.heap.size ≤ q) q := fun _ h => h
  have hc0 : cells + 0 ≤ room_1.cells := Nat.le_trans (Nat.le_add_right _ 19) hc
  have hs0 : slots + 0 ≤ room_1.slots := Nat.le_trans (Nat.le_add_right _ 2988) hs
  have hH : Hd D (fun q : Nat => s.heap.size ≤ q) s (pwW P bb A1 A2 cI cB tw (imF I) tp t ap r1 r2 ++ (modelW A cI r ++ imgsW cI I)) H locs := hH
  obtain ⟨⟨n51, n52⟩, ⟨tw0, tw5⟩, ⟨o1, o2⟩, ⟨ok0, ok1⟩, T0, m2, e4, t6, b0, b1, e8, m20⟩ := sim_side hS
  refine lv_aload_n hx hb dL_law_605 rfl (lv_at hl 1 rfl) ?_
  refine lv_aload_n hx hb dL_law_606 rfl (lv_at hl 0 rfl) ?_
  refine lv_iload_n hx hb dL_law_607 rfl (lv_at hl 3 rfl) ?_
  refine lv_iconst (v := 1) hx hb dL_law_608 (by decide) ?_
  refine lv_iadd hx hb dL_law_609 ?_
  refine x_sld hx hb hX hbl hH (i + 1) (by omega) hL (nI_add i 1) dL_law_610 ?_
  by_cases ho : (xs (i + 1)) < 0 ∨ 4 ≤ (xs (i + 1))
  · skip
    refine kSI (va_runV (As := [.int (xs (i + 1))]) (rest := []) ⟨hx, hb, hml, hown, hts⟩ (c_X5_keep_out l D cI cB P bb A1 A2 tw (imF I) tp t ap r1 r2 (xs (i + 1)) ho _) (cwV 1 hts gL_law_X5_keep rfl rfl rfl (by decide +kernel) ⟨Nat.le_of_ble_eq_true rfl, Nat.le_of_ble_eq_true rfl⟩) (preV_pre (ci := 5) hH.1.left hH.2.1.left hK hN rfl 0 rfl) rfl rfl hl.1 rfl (lv_room (Nat.le_of_ble_eq_true rfl)) dL_law_611 ⟨hc0, hs0⟩) ?_
    have hm1 : keepMR r (xs (i + 1)) = r := keep_outR ho
    have hm2 : keepMV (xs (i + 1)) = 0 := keep_outV ho
    refine lv_aload_n hx hb dL_law_614 rfl (lv_at hl 2 rfl) ?_
    refine lv_aload_n hx hb dL_law_615 rfl (lv_at hl 0 rfl) ?_
    refine lv_iload_n hx hb dL_law_616 rfl (lv_at hl 3 rfl) ?_
    refine lv_iconst (v := 1) hx hb dL_law_617 (by decide) ?_
    refine lv_iadd hx hb dL_law_618 ?_
    refine x_sld hx hb hX hbl hH (i + 1) (by omega) hL (nI_add i 1) dL_law_619 ?_
    have hG : Hd D (fun q : Nat => s.heap.size ≤ q) s (modelW A cI r ++ (pwW P bb A1 A2 cI cB tw (imF I) tp t ap r1 r2 ++ imgsW cI I)) _ _ := hH.perm (List.perm_append_comm_assoc _ _ _)
    refine kCIp (va_runV (As := [.int (xs (i + 1))]) (rest := [.int 0]) ⟨hx, hb, hml, hown, hts⟩ (c_X6_keep l D cI cB A r (xs (i + 1)) _) (cwV 1 hts gL_law_X6_keep rfl rfl rfl (by decide +kernel) ⟨Nat.le_of_ble_eq_true rfl, Nat.le_of_ble_eq_true rfl⟩) (preV_pre (ci := 6) hG.1.left hG.2.1.left hK hN rfl 0 rfl) rfl rfl hl.1 rfl (lv_room (Nat.le_of_ble_eq_true rfl)) dL_law_620 ⟨hc0, hs0⟩) hG hA adr_model (fun H locs hG => ?_)
    have hH : Hd D (fun q : Nat => s.heap.size ≤ q) s (pwW P bb A1 A2 cI cB tw (imF I) tp t ap r1 r2 ++ (modelW A cI (keepMR r (xs (i + 1))) ++ imgsW cI I)) _ _ := hG.perm (List.perm_append_comm_assoc _ _ _)
    refine lv_icmp_eq (tgt := 674) hx hb dL_law_623 (by decide) (fun c_9 => ?_) (fun c_9 => ?_)
    · rw [hm1] at hH
      exact W.widen (Nat.le_add_right _ _) (Nat.le_add_right _ _) (K _ _ _ _ _ _ _ _ _ _ _ (hS) hH (lv_sub hl [0, 1, 2, 3] rfl))
    · exact absurd hm2.symm c_9
  · have hk0 : ¬ (xs (i + 1)) < 0 := fun h => ho (Or.inl h)
    have hk4 : (xs (i + 1)) < 4 := Int32.not_le.mp (fun h => ho (Or.inr h))
    have hK4 := (k4_ok hk0 hk4).2
    rcases hI : I (xs (i + 1)).toNatClampNeg with _ | im0
    · skip
      refine kCJ (va_runV (As := [.int (xs (i + 1))]) (rest := []) ⟨hx, hb, hml, hown, hts⟩ (c_X5_keep_none l D cI cB P bb A1 A2 tw (imF I) tp t ap r1 r2 (xs (i + 1)) hk0 hk4 (show imF I (xs (i + 1)).toNatClampNeg = none by unfold imF; rw [hI]; rfl) o1 o2 _) (cwV 1 hts gL_law_X5_keep rfl rfl rfl (by decide +kernel) ⟨Nat.le_of_ble_eq_true rfl, Nat.le_of_ble_eq_true rfl⟩) (preV_pre (ci := 5) hH.1.left hH.2.1.left hK hN rfl 0 rfl) rfl rfl hl.1 rfl (lv_room (Nat.le_of_ble_eq_true rfl)) dL_law_611 ⟨hc, hs⟩) hH hA (fun x w1 H locs hp hH => ?_)
      obtain ⟨hp1, bq, B1, B2, hp2⟩ := hp
      subst hp1
      subst hp2
      obtain ⟨hs1, hs2⟩ := sim_keep hS (xs (i + 1)) hk0 hk4 bq B1 B2 newT newT
      have hH : Hd D (fun q : Nat => s.heap.size ≤ q) s (pwW P bb A1 A2 cI cB tw (imF (va_up I (xs (i + 1)).toNatClampNeg (some (bq, B1, B2, t, ap, copyR newT r1, copyR newT r2)))) tp t ap r1 r2 ++ (modelW A cI r ++ imgsW cI (va_up I (xs (i + 1)).toNatClampNeg (some (bq, B1, B2, t, ap, copyR newT r1, copyR newT r2))))) H locs := by
        rw [imF_up]
        have hH2 := hH.perm (ws' := (pwW P bb A1 A2 cI cB tw (va_up (imF I) (xs (i + 1)).toNatClampNeg (some bq)) tp t ap r1 r2 ++ benchI cI (bq, B1, B2, t, ap, copyR newT r1, copyR newT r2)) ++ (modelW A cI r ++ imgsW cI (va_up I (xs (i + 1)).toNatClampNeg none))) (by rw [va_up_same hI]; exact List.Perm.refl _)
        exact hH2.perm (img_in hK4 _ _ _)
      have hc0 : cells + 19 + 0 ≤ room_1.cells := hc
      have hs0 : slots + 2988 + 0 ≤ room_1.slots := hs
      refine lv_aload_n hx hb dL_law_614 rfl (lv_at hl 2 rfl) ?_
      refine lv_aload_n hx hb dL_law_615 rfl (lv_at hl 0 rfl) ?_
      refine lv_iload_n hx hb dL_law_616 rfl (lv_at hl 3 rfl) ?_
      refine lv_iconst (v := 1) hx hb dL_law_617 (by decide) ?_
      refine lv_iadd hx hb dL_law_618 ?_
      refine x_sld hx hb hX hbl hH (i + 1) (by omega) hL (nI_add i 1) dL_law_619 ?_
      have hG : Hd D (fun q : Nat => s.heap.size ≤ q) s (modelW A cI r ++ (pwW P bb A1 A2 cI cB tw (imF (va_up I (xs (i + 1)).toNatClampNeg (some (bq, B1, B2, t, ap, copyR newT r1, copyR newT r2)))) tp t ap r1 r2 ++ imgsW cI (va_up I (xs (i + 1)).toNatClampNeg (some (bq, B1, B2, t, ap, copyR newT r1, copyR newT r2))))) _ _ := hH.perm (List.perm_append_comm_assoc _ _ _)
      refine kCIp (va_runV (As := [.int (xs (i + 1))]) (rest := [.int 1]) ⟨hx, hb, hml, hown, hts⟩ (c_X6_keep l D cI cB A r (xs (i + 1)) _) (cwV 1 hts gL_law_X6_keep rfl rfl rfl (by decide +kernel) ⟨Nat.le_of_ble_eq_true rfl, Nat.le_of_ble_eq_true rfl⟩) (preV_pre (ci := 6) hG.1.left hG.2.1.left hK hN rfl 0 rfl) rfl rfl hl.1 rfl (lv_room (Nat.le_of_ble_eq_true rfl)) dL_law_620 ⟨hc0, hs0⟩) hG hA adr_model (fun H locs hG => ?_)
      have hH : Hd D (fun q : Nat => s.heap.size ≤ q) s (pwW P bb A1 A2 cI cB tw (imF (va_up I (xs (i + 1)).toNatClampNeg (some (bq, B1, B2, t, ap, copyR newT r1, copyR newT r2)))) tp t ap r1 r2 ++ (modelW A cI (keepMR r (xs (i + 1))) ++ imgsW cI (va_up I (xs (i + 1)).toNatClampNeg (some (bq, B1, B2, t, ap, copyR newT r1, copyR newT r2))))) _ _ := hG.perm (List.perm_append_comm_assoc _ _ _)
      refine lv_icmp_eq (tgt := 674) hx hb dL_law_623 (by decide) (fun c_9 => ?_) (fun c_9 => ?_)
      · exact K _ _ _ _ _ _ (va_up I (xs (i + 1)).toNatClampNeg (some (bq, B1, B2, t, ap, copyR newT r1, copyR newT r2))) _ _ _ _ hs2 hH (lv_sub hl [0, 1, 2, 3] rfl)
      · exact absurd hs1.symm c_9
    · obtain ⟨bq, B1, B2, u, aq, q1, q2⟩ := im0
      have hH : Hd D (fun q : Nat => s.heap.size ≤ q) s ((pwW P bb A1 A2 cI cB tw (imF I) tp t ap r1 r2 ++ benchW bq B1 B2 cI u aq q1 q2) ++ (modelW A cI r ++ imgsW cI (va_up I (xs (i + 1)).toNatClampNeg none))) H locs := hH.perm (img_out hK4 hI _ _)
      refine kCIp (va_runV (As := [.int (xs (i + 1))]) (rest := []) ⟨hx, hb, hml, hown, hts⟩ (c_X5_keep_some l D cI cB P bb A1 A2 tw (imF I) tp t ap r1 r2 bq B1 B2 u aq q1 q2 (xs (i + 1)) hk0 hk4 (show imF I (xs (i + 1)).toNatClampNeg = some bq by unfold imF; rw [hI]; rfl) o1 o2 _) (cwV 1 hts gL_law_X5_keep rfl rfl rfl (by decide +kernel) ⟨Nat.le_of_ble_eq_true rfl, Nat.le_of_ble_eq_true rfl⟩) (preV_pre (ci := 5) hH.1.left hH.2.1.left hK hN rfl 0 rfl) rfl rfl hl.1 rfl (lv_room (Nat.le_of_ble_eq_true rfl)) dL_law_611 ⟨hc0, hs0⟩) hH hA adr_pwimg (fun H locs hH => ?_)
      obtain ⟨hs1, hs2⟩ := sim_keep hS (xs (i + 1)) hk0 hk4 bq B1 B2 q1 q2
      have hH : Hd D (fun q : Nat => s.heap.size ≤ q) s (pwW P bb A1 A2 cI cB tw (imF (va_up I (xs (i + 1)).toNatClampNeg (some (bq, B1, B2, t, ap, copyR q1 r1, copyR q2 r2)))) tp t ap r1 r2 ++ (modelW A cI r ++ imgsW cI (va_up I (xs (i + 1)).toNatClampNeg (some (bq, B1, B2, t, ap, copyR q1 r1, copyR q2 r2))))) H locs := by
        rw [imF_same (i' := (bq, B1, B2, t, ap, copyR q1 r1, copyR q2 r2)) hI rfl]
        exact hH.perm (img_in hK4 (bq, B1, B2, t, ap, copyR q1 r1, copyR q2 r2) _ _)
      refine lv_aload_n hx hb dL_law_614 rfl (lv_at hl 2 rfl) ?_
      refine lv_aload_n hx hb dL_law_615 rfl (lv_at hl 0 rfl) ?_
      refine lv_iload_n hx hb dL_law_616 rfl (lv_at hl 3 rfl) ?_
      refine lv_iconst (v := 1) hx hb dL_law_617 (by decide) ?_
      refine lv_iadd hx hb dL_law_618 ?_
      refine x_sld hx hb hX hbl hH (i + 1) (by omega) hL (nI_add i 1) dL_law_619 ?_
      have hG : Hd D (fun q : Nat => s.heap.size ≤ q) s (modelW A cI r ++ (pwW P bb A1 A2 cI cB tw (imF (va_up I (xs (i + 1)).toNatClampNeg (some (bq, B1, B2, t, ap, copyR q1 r1, copyR q2 r2)))) tp t ap r1 r2 ++ imgsW cI (va_up I (xs (i + 1)).toNatClampNeg (some (bq, B1, B2, t, ap, copyR q1 r1, copyR q2 r2))))) _ _ := hH.perm (List.perm_append_comm_assoc _ _ _)
      refine kCIp (va_runV (As := [.int (xs (i + 1))]) (rest := [.int 1]) ⟨hx, hb, hml, hown, hts⟩ (c_X6_keep l D cI cB A r (xs (i + 1)) _) (cwV 1 hts gL_law_X6_keep rfl rfl rfl (by decide +kernel) ⟨Nat.le_of_ble_eq_true rfl, Nat.le_of_ble_eq_true rfl⟩) (preV_pre (ci := 6) hG.1.left hG.2.1.left hK hN rfl 0 rfl) rfl rfl hl.1 rfl (lv_room (Nat.le_of_ble_eq_true rfl)) dL_law_620 ⟨hc0, hs0⟩) hG hA adr_model (fun H locs hG => ?_)
      have hH : Hd D (fun q : Nat => s.heap.size ≤ q) s (pwW P bb A1 A2 cI cB tw (imF (va_up I (xs (i + 1)).toNatClampNeg (some (bq, B1, B2, t, ap, copyR q1 r1, copyR q2 r2)))) tp t ap r1 r2 ++ (modelW A cI (keepMR r (xs (i + 1))) ++ imgsW cI (va_up I (xs (i + 1)).toNatClampNeg (some (bq, B1, B2, t, ap, copyR q1 r1, copyR q2 r2))))) _ _ := hG.perm (List.perm_append_comm_assoc _ _ _)
      refine lv_icmp_eq (tgt := 674) hx hb dL_law_623 (by decide) (fun c_9 => ?_) (fun c_9 => ?_)
      · exact W.widen (Nat.le_add_right _ _) (Nat.le_add_right _ _) (K _ _ _ _ _ _ (va_up I (xs (i + 1)).toNatClampNeg (some (bq, B1, B2, t, ap, copyR q1 r1, copyR q2 r2))) _ _ _ _ (hs2) hH (lv_sub hl [0, 1, 2, 3] rfl))
      · exact absurd hs1.symm c_9

set_option maxHeartbeats 1000000 in
set_option maxRecDepth 100000 in
theorem law_back {p : Program} {l : Launch} {e : Env} {s : State} {m : MethodId} {below : List Frame} {meth : Method} {c : Code} {b L : Nat} {xs : Nat → Int32} {D : va_G} {cI cB : ClassId} {P : Nat → Nat} {bb : Nat} {A1 A2 A : Nat → Nat} {i cells slots : Nat} (C0 : LC p s m meth c b L xs D cI cB) (hL : L ≤ 3072) (hi : i + 6 ≤ L) (hc : cells + 19 ≤ 600000) (hs : slots + 2988 ≤ 7302250) (K : Go p l e s m below meth c b D cI cB P bb A1 A2 A i 674 (cells + 19) (slots + 2988)) : Go p l e s m below meth c b D cI cB P bb A1 A2 A i 628 cells slots := by
  obtain ⟨hx, hb, hr, hml, hown, hts, hX, hbl, hlocks, hK, hN⟩ := C0
  intro tw tp t ap r1 r2 I r H locs ls hS hH hl
  have hA : ∀ q : Nat, s.heap.size ≤ q → (fun q : Nat => s.heap.size ≤ q) q := fun _ h => h
  have hc0 : cells + 0 ≤ room_1.cells := Nat.le_trans (Nat.le_add_right _ 19) hc
  have hs0 : slots + 0 ≤ room_1.slots := Nat.le_trans (Nat.le_add_right _ 2988) hs
  have hH : Hd D (fun q : Nat => s.heap.size ≤ q) s (pwW P bb A1 A2 cI cB tw (imF I) tp t ap r1 r2 ++ (modelW A cI r ++ imgsW cI I)) H locs := hH
  obtain ⟨⟨n51, n52⟩, ⟨tw0, tw5⟩, ⟨o1, o2⟩, ⟨ok0, ok1⟩, T0, m2, e4, t6, b0, b1, e8, m20⟩ := sim_side hS
  refine lv_aload_n hx hb dL_law_628 rfl (lv_at hl 1 rfl) ?_
  refine lv_aload_n hx hb dL_law_629 rfl (lv_at hl 0 rfl) ?_
  refine lv_iload_n hx hb dL_law_630 rfl (lv_at hl 3 rfl) ?_
  refine lv_iconst (v := 1) hx hb dL_law_631 (by decide) ?_
  refine lv_iadd hx hb dL_law_632 ?_
  refine x_sld hx hb hX hbl hH (i + 1) (by omega) hL (nI_add i 1) dL_law_633 ?_
  by_cases ho : (xs (i + 1)) < 0 ∨ 4 ≤ (xs (i + 1))
  · skip
    refine kSI (va_runV (As := [.int (xs (i + 1))]) (rest := []) ⟨hx, hb, hml, hown, hts⟩ (c_X5_back_out l D cI cB P bb A1 A2 tw (imF I) tp t ap r1 r2 (xs (i + 1)) ho _) (cwV 1 hts gL_law_X5_back rfl rfl rfl (by decide +kernel) ⟨Nat.le_of_ble_eq_true rfl, Nat.le_of_ble_eq_true rfl⟩) (preV_pre (ci := 5) hH.1.left hH.2.1.left hK hN rfl 0 rfl) rfl rfl hl.1 rfl (lv_room (Nat.le_of_ble_eq_true rfl)) dL_law_634 ⟨hc0, hs0⟩) ?_
    have hm1 : backMR r (xs (i + 1)) = r := back_outR ho
    have hm2 : backMV r (xs (i + 1)) = 0 := back_outV ho
    refine lv_aload_n hx hb dL_law_637 rfl (lv_at hl 2 rfl) ?_
    refine lv_aload_n hx hb dL_law_638 rfl (lv_at hl 0 rfl) ?_
    refine lv_iload_n hx hb dL_law_639 rfl (lv_at hl 3 rfl) ?_
    refine lv_iconst (v := 1) hx hb dL_law_640 (by decide) ?_
    refine lv_iadd hx hb dL_law_641 ?_
    refine x_sld hx hb hX hbl hH (i + 1) (by omega) hL (nI_add i 1) dL_law_642 ?_
    have hG : Hd D (fun q : Nat => s.heap.size ≤ q) s (modelW A cI r ++ (pwW P bb A1 A2 cI cB tw (imF I) tp t ap r1 r2 ++ imgsW cI I)) _ _ := hH.perm (List.perm_append_comm_assoc _ _ _)
    refine kCIp (va_runV (As := [.int (xs (i + 1))]) (rest := [.int 0]) ⟨hx, hb, hml, hown, hts⟩ (c_X6_back l D cI cB A r (xs (i + 1)) _) (cwV 1 hts gL_law_X6_back rfl rfl rfl (by decide +kernel) ⟨Nat.le_of_ble_eq_true rfl, Nat.le_of_ble_eq_true rfl⟩) (preV_pre (ci := 6) hG.1.left hG.2.1.left hK hN rfl 0 rfl) rfl rfl hl.1 rfl (lv_room (Nat.le_of_ble_eq_true rfl)) dL_law_643 ⟨hc0, hs0⟩) hG hA adr_model (fun H locs hG => ?_)
    have hH : Hd D (fun q : Nat => s.heap.size ≤ q) s (pwW P bb A1 A2 cI cB tw (imF I) tp t ap r1 r2 ++ (modelW A cI (backMR r (xs (i + 1))) ++ imgsW cI I)) _ _ := hG.perm (List.perm_append_comm_assoc _ _ _)
    refine lv_icmp_eq (tgt := 674) hx hb dL_law_646 (by decide) (fun c_9 => ?_) (fun c_9 => ?_)
    · rw [hm1] at hH
      exact W.widen (Nat.le_add_right _ _) (Nat.le_add_right _ _) (K _ _ _ _ _ _ _ _ _ _ _ (hS) hH (lv_sub hl [0, 1, 2, 3] rfl))
    · exact absurd hm2.symm c_9
  · have hk0 : ¬ (xs (i + 1)) < 0 := fun h => ho (Or.inl h)
    have hk4 : (xs (i + 1)) < 4 := Int32.not_le.mp (fun h => ho (Or.inr h))
    have hK4 := (k4_ok hk0 hk4).2
    rcases hI : I (xs (i + 1)).toNatClampNeg with _ | im0
    · skip
      refine kSI (va_runV (As := [.int (xs (i + 1))]) (rest := []) ⟨hx, hb, hml, hown, hts⟩ (c_X5_back_none l D cI cB P bb A1 A2 tw (imF I) tp t ap r1 r2 (xs (i + 1)) hk0 hk4 (show imF I (xs (i + 1)).toNatClampNeg = none by unfold imF; rw [hI]; rfl) _) (cwV 1 hts gL_law_X5_back rfl rfl rfl (by decide +kernel) ⟨Nat.le_of_ble_eq_true rfl, Nat.le_of_ble_eq_true rfl⟩) (preV_pre (ci := 5) hH.1.left hH.2.1.left hK hN rfl 0 rfl) rfl rfl hl.1 rfl (lv_room (Nat.le_of_ble_eq_true rfl)) dL_law_634 ⟨hc0, hs0⟩) ?_
      obtain ⟨hm2, hm1⟩ := sim_back0 hS (xs (i + 1)) hk0 hk4 hI
      refine lv_aload_n hx hb dL_law_637 rfl (lv_at hl 2 rfl) ?_
      refine lv_aload_n hx hb dL_law_638 rfl (lv_at hl 0 rfl) ?_
      refine lv_iload_n hx hb dL_law_639 rfl (lv_at hl 3 rfl) ?_
      refine lv_iconst (v := 1) hx hb dL_law_640 (by decide) ?_
      refine lv_iadd hx hb dL_law_641 ?_
      refine x_sld hx hb hX hbl hH (i + 1) (by omega) hL (nI_add i 1) dL_law_642 ?_
      have hG : Hd D (fun q : Nat => s.heap.size ≤ q) s (modelW A cI r ++ (pwW P bb A1 A2 cI cB tw (imF I) tp t ap r1 r2 ++ imgsW cI I)) _ _ := hH.perm (List.perm_append_comm_assoc _ _ _)
      refine kCIp (va_runV (As := [.int (xs (i + 1))]) (rest := [.int 0]) ⟨hx, hb, hml, hown, hts⟩ (c_X6_back l D cI cB A r (xs (i + 1)) _) (cwV 1 hts gL_law_X6_back rfl rfl rfl (by decide +kernel) ⟨Nat.le_of_ble_eq_true rfl, Nat.le_of_ble_eq_true rfl⟩) (preV_pre (ci := 6) hG.1.left hG.2.1.left hK hN rfl 0 rfl) rfl rfl hl.1 rfl (lv_room (Nat.le_of_ble_eq_true rfl)) dL_law_643 ⟨hc0, hs0⟩) hG hA adr_model (fun H locs hG => ?_)
      have hH : Hd D (fun q : Nat => s.heap.size ≤ q) s (pwW P bb A1 A2 cI cB tw (imF I) tp t ap r1 r2 ++ (modelW A cI (backMR r (xs (i + 1))) ++ imgsW cI I)) _ _ := hG.perm (List.perm_append_comm_assoc _ _ _)
      refine lv_icmp_eq (tgt := 674) hx hb dL_law_646 (by decide) (fun c_9 => ?_) (fun c_9 => ?_)
      · rw [hm1] at hH
        exact W.widen (Nat.le_add_right _ _) (Nat.le_add_right _ _) (K _ _ _ _ _ _ _ _ _ _ _ (hS) hH (lv_sub hl [0, 1, 2, 3] rfl))
      · exact absurd hm2.symm c_9
    · obtain ⟨h1, h2⟩ := sim_img hS (xs (i + 1)).toNatClampNeg hK4 im0 hI
      obtain ⟨hs1, hs2⟩ := sim_back hS (xs (i + 1)) hk0 hk4 im0 hI
      obtain ⟨bq, B1, B2, u, aq, q1, q2⟩ := im0
      have hH : Hd D (fun q : Nat => s.heap.size ≤ q) s ((pwW P bb A1 A2 cI cB tw (imF I) tp t ap r1 r2 ++ benchW bq B1 B2 cI u aq q1 q2) ++ (modelW A cI r ++ imgsW cI (va_up I (xs (i + 1)).toNatClampNeg none))) H locs := hH.perm (img_out hK4 hI _ _)
      refine kCIp (va_runV (As := [.int (xs (i + 1))]) (rest := []) ⟨hx, hb, hml, hown, hts⟩ (c_X5_back_some l D cI cB P bb A1 A2 tw (imF I) tp t ap r1 r2 bq B1 B2 u aq q1 q2 (xs (i + 1)) hk0 hk4 (show imF I (xs (i + 1)).toNatClampNeg = some bq by unfold imF; rw [hI]; rfl) h1 h2 _) (cwV 1 hts gL_law_X5_back rfl rfl rfl (by decide +kernel) ⟨Nat.le_of_ble_eq_true rfl, Nat.le_of_ble_eq_true rfl⟩) (preV_pre (ci := 5) hH.1.left hH.2.1.left hK hN rfl 0 rfl) rfl rfl hl.1 rfl (lv_room (Nat.le_of_ble_eq_true rfl)) dL_law_634 ⟨hc0, hs0⟩) hH hA adr_pwimg2 (fun H locs hH => ?_)
      have hH : Hd D (fun q : Nat => s.heap.size ≤ q) s (pwW P bb A1 A2 cI cB tw (imF I) tp u aq (copyR r1 q1) (copyR r2 q2) ++ (modelW A cI r ++ imgsW cI I)) H locs := by
        have hH2 := hH.perm (img_in hK4 (bq, B1, B2, u, aq, q1, q2) _ _)
        rw [va_up_same hI] at hH2
        exact hH2
      refine lv_aload_n hx hb dL_law_637 rfl (lv_at hl 2 rfl) ?_
      refine lv_aload_n hx hb dL_law_638 rfl (lv_at hl 0 rfl) ?_
      refine lv_iload_n hx hb dL_law_639 rfl (lv_at hl 3 rfl) ?_
      refine lv_iconst (v := 1) hx hb dL_law_640 (by decide) ?_
      refine lv_iadd hx hb dL_law_641 ?_
      refine x_sld hx hb hX hbl hH (i + 1) (by omega) hL (nI_add i 1) dL_law_642 ?_
      have hG : Hd D (fun q : Nat => s.heap.size ≤ q) s (modelW A cI r ++ (pwW P bb A1 A2 cI cB tw (imF I) tp u aq (copyR r1 q1) (copyR r2 q2) ++ imgsW cI I)) _ _ := hH.perm (List.perm_append_comm_assoc _ _ _)
      refine kCIp (va_runV (As := [.int (xs (i + 1))]) (rest := [.int 1]) ⟨hx, hb, hml, hown, hts⟩ (c_X6_back l D cI cB A r (xs (i + 1)) _) (cwV 1 hts gL_law_X6_back rfl rfl rfl (by decide +kernel) ⟨Nat.le_of_ble_eq_true rfl, Nat.le_of_ble_eq_true rfl⟩) (preV_pre (ci := 6) hG.1.left hG.2.1.left hK hN rfl 0 rfl) rfl rfl hl.1 rfl (lv_room (Nat.le_of_ble_eq_true rfl)) dL_law_643 ⟨hc0, hs0⟩) hG hA adr_model (fun H locs hG => ?_)
      have hH : Hd D (fun q : Nat => s.heap.size ≤ q) s (pwW P bb A1 A2 cI cB tw (imF I) tp u aq (copyR r1 q1) (copyR r2 q2) ++ (modelW A cI (backMR r (xs (i + 1))) ++ imgsW cI I)) _ _ := hG.perm (List.perm_append_comm_assoc _ _ _)
      refine lv_icmp_eq (tgt := 674) hx hb dL_law_646 (by decide) (fun c_9 => ?_) (fun c_9 => ?_)
      · exact W.widen (Nat.le_add_right _ _) (Nat.le_add_right _ _) (K _ _ _ _ _ _ _ _ _ _ _ (hs2) hH (lv_sub hl [0, 1, 2, 3] rfl))
      · exact absurd hs1.symm c_9

set_option maxHeartbeats 1000000 in
set_option maxRecDepth 100000 in
theorem law_about {p : Program} {l : Launch} {e : Env} {s : State} {m : MethodId} {below : List Frame} {meth : Method} {c : Code} {b L : Nat} {xs : Nat → Int32} {D : va_G} {cI cB : ClassId} {P : Nat → Nat} {bb : Nat} {A1 A2 A : Nat → Nat} {i cells slots : Nat} (C0 : LC p s m meth c b L xs D cI cB) (hL : L ≤ 3072) (hi : i + 6 ≤ L) (hc : cells + 19 ≤ 600000) (hs : slots + 2988 ≤ 7302250) (K : Go p l e s m below meth c b D cI cB P bb A1 A2 A i 674 (cells + 19) (slots + 2988)) : Go p l e s m below meth c b D cI cB P bb A1 A2 A i 651 cells slots := by
  obtain ⟨hx, hb, hr, hml, hown, hts, hX, hbl, hlocks, hK, hN⟩ := C0
  intro tw tp t ap r1 r2 I r H locs ls hS hH hl
  have hA : ∀ q : Nat, s.heap.size ≤ q → (fun q : Nat => s.heap.size ≤ q) q := fun _ h => h
  have hc0 : cells + 0 ≤ room_1.cells := Nat.le_trans (Nat.le_add_right _ 19) hc
  have hs0 : slots + 0 ≤ room_1.slots := Nat.le_trans (Nat.le_add_right _ 2988) hs
  have hH : Hd D (fun q : Nat => s.heap.size ≤ q) s (pwW P bb A1 A2 cI cB tw (imF I) tp t ap r1 r2 ++ (modelW A cI r ++ imgsW cI I)) H locs := hH
  obtain ⟨⟨n51, n52⟩, ⟨tw0, tw5⟩, ⟨o1, o2⟩, ⟨ok0, ok1⟩, T0, m2, e4, t6, b0, b1, e8, m20⟩ := sim_side hS
  refine lv_aload_n hx hb dL_law_651 rfl (lv_at hl 1 rfl) ?_
  refine lv_aload_n hx hb dL_law_652 rfl (lv_at hl 0 rfl) ?_
  refine lv_iload_n hx hb dL_law_653 rfl (lv_at hl 3 rfl) ?_
  refine lv_iconst (v := 1) hx hb dL_law_654 (by decide) ?_
  refine lv_iadd hx hb dL_law_655 ?_
  refine x_sld hx hb hX hbl hH (i + 1) (by omega) hL (nI_add i 1) dL_law_656 ?_
  refine kSI (va_runV (As := [.int (xs (i + 1))]) (rest := []) ⟨hx, hb, hml, hown, hts⟩ (c_X5_about l D cI cB P bb A1 A2 tw (imF I) tp t ap r1 r2 (xs (i + 1)) _) (cwV 1 hts gL_law_X5_about rfl rfl rfl (by decide +kernel) ⟨Nat.le_of_ble_eq_true rfl, Nat.le_of_ble_eq_true rfl⟩) (preV_pre (ci := 5) hH.1.left hH.2.1.left hK hN rfl 0 rfl) rfl rfl hl.1 rfl (lv_room (Nat.le_of_ble_eq_true rfl)) dL_law_657 ⟨hc0, hs0⟩) ?_
  refine lv_aload_n hx hb dL_law_660 rfl (lv_at hl 2 rfl) ?_
  refine lv_aload_n hx hb dL_law_661 rfl (lv_at hl 0 rfl) ?_
  refine lv_iload_n hx hb dL_law_662 rfl (lv_at hl 3 rfl) ?_
  refine lv_iconst (v := 1) hx hb dL_law_663 (by decide) ?_
  refine lv_iadd hx hb dL_law_664 ?_
  refine x_sld hx hb hX hbl hH (i + 1) (by omega) hL (nI_add i 1) dL_law_665 ?_
  have hG : Hd D (fun q : Nat => s.heap.size ≤ q) s (modelW A cI r ++ (pwW P bb A1 A2 cI cB tw (imF I) tp t ap r1 r2 ++ imgsW cI I)) _ _ := hH.perm (List.perm_append_comm_assoc _ _ _)
  refine kSI (va_runV (As := [.int (xs (i + 1))]) (rest := [.int _]) ⟨hx, hb, hml, hown, hts⟩ (c_X6_about l D cI cB A r (xs (i + 1)) _) (cwV 1 hts gL_law_X6_about rfl rfl rfl (by decide +kernel) ⟨Nat.le_of_ble_eq_true rfl, Nat.le_of_ble_eq_true rfl⟩) (preV_pre (ci := 6) hG.1.left hG.2.1.left hK hN rfl 0 rfl) rfl rfl hl.1 rfl (lv_room (Nat.le_of_ble_eq_true rfl)) dL_law_666 ⟨hc0, hs0⟩) ?_
  refine lv_icmp_eq (tgt := 674) hx hb dL_law_669 (by decide) (fun c_9 => ?_) (fun c_9 => ?_)
  · exact W.widen (Nat.le_add_right _ _) (Nat.le_add_right _ _) (K _ _ _ _ _ _ _ _ _ _ _ (hS) hH (lv_sub hl [0, 1, 2, 3] rfl))
  · exact absurd (sim_about hS (xs (i + 1))) c_9
