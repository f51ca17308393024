/-! ### objects are made: worlds by what they hold, in any order -/
theorem va_D.nodup {A : Nat → Prop} {ws : va_W} (h : va_D A ws) : (ws.map (fun q => q.1)).Nodup := by
  unfold List.Nodup
  rw [List.pairwise_iff_getElem]
  intro i j hi hj hij he
  have hi' : i < ws.length := by simpa using hi
  have hj' : j < ws.length := by simpa using hj
  rw [List.getElem_map, List.getElem_map] at he
  have := h.1 i j ws[i] ws[j] (List.getElem?_eq_getElem hi') (List.getElem?_eq_getElem hj') he
  omega
theorem va_D.ofnodup {A : Nat → Prop} {ws : va_W} (h : (ws.map (fun q => q.1)).Nodup) (hA : ∀ q ∈ ws, A q.1) : va_D A ws := by
  refine ⟨fun i j p q hp hq e => ?_, fun k q hk => hA q (List.mem_of_getElem? hk)⟩
  unfold List.Nodup at h
  rw [List.pairwise_iff_getElem] at h
  obtain ⟨hi, ei⟩ := List.getElem?_eq_some_iff.mp hp
  obtain ⟨hj, ej⟩ := List.getElem?_eq_some_iff.mp hq
  rcases Nat.lt_trichotomy i j with z | z | z
  · exact absurd (by rw [List.getElem_map, List.getElem_map, ei, ej]; exact e) (h i j (by simpa using hi) (by simpa using hj) z)
  · exact z
  · exact absurd (by rw [List.getElem_map, List.getElem_map, ei, ej]; exact e.symm) (h j i (by simpa using hj) (by simpa using hi) z)
theorem va_P.perm {D : va_G} {ws ws' : va_W} {H : Heap} (hp : List.Perm ws ws') (h : va_P D vwCl ws H) : va_P D vwCl ws' H := fun k q hk => by
  have h1 : q ∈ ws := hp.mem_iff.mpr (List.mem_of_getElem? hk)
  obtain ⟨i, hi⟩ := List.mem_iff_getElem?.mp h1
  exact h i q hi
theorem va_D.perm {A : Nat → Prop} {ws ws' : va_W} (hp : List.Perm ws ws') (h : va_D A ws) : va_D A ws' := by
  refine va_D.ofnodup ((hp.map (fun q => q.1)).nodup h.nodup) (fun q hq => ?_)
  obtain ⟨i, hi⟩ := List.mem_iff_getElem?.mp (hp.mem_iff.mpr hq)
  exact h.2 i q hi
theorem va_P.left {D : va_G} {a b : va_W} {H : Heap} (h : va_P D vwCl (a ++ b) H) : va_P D vwCl a H := fun k q hk => h k q (by rw [List.getElem?_append_left (List.getElem?_eq_some_iff.mp hk).1]; exact hk)
theorem va_P.right {D : va_G} {a b : va_W} {H : Heap} (h : va_P D vwCl (a ++ b) H) : va_P D vwCl b H := fun k q hk => h (a.length + k) q (by rw [List.getElem?_append_right (by omega), show a.length + k - a.length = k by omega]; exact hk)
theorem va_D.left {A : Nat → Prop} {a b : va_W} (h : va_D A (a ++ b)) : va_D A a := by
  have hf : ∀ (k : Nat) (q : Nat × va_E), a[k]? = some q → (a ++ b)[k]? = some q := fun k q hk => by rw [List.getElem?_append_left (List.getElem?_eq_some_iff.mp hk).1]; exact hk
  exact ⟨fun i j p q hp hq e => h.1 i j p q (hf i p hp) (hf j q hq) e, fun k q hk => h.2 k q (hf k q hk)⟩
theorem va_D.right {A : Nat → Prop} {a b : va_W} (h : va_D A (a ++ b)) : va_D A b := by
  have hf : ∀ (k : Nat) (q : Nat × va_E), b[k]? = some q → (a ++ b)[a.length + k]? = some q := fun k q hk => by rw [List.getElem?_append_right (by omega), show a.length + k - a.length = k by omega]; exact hk
  exact ⟨fun i j p q hp hq e => by have := h.1 _ _ p q (hf i p hp) (hf j q hq) e; omega, fun k q hk => h.2 _ q (hf k q hk)⟩
theorem va_D.cross {A : Nat → Prop} {a b : va_W} (h : va_D A (a ++ b)) {i j : Nat} {p q : Nat × va_E} (hp : a[i]? = some p) (hq : b[j]? = some q) : p.1 ≠ q.1 := by
  intro e
  have hl := (List.getElem?_eq_some_iff.mp hp).1
  have := h.1 i (a.length + j) p q (by rw [List.getElem?_append_left hl]; exact hp) (by rw [List.getElem?_append_right (by omega), show a.length + j - a.length = j by omega]; exact hq) e
  omega
theorem Hd.perm {D : va_G} {A : Nat → Prop} {s : State} {ws ws' : va_W} {H : Heap} {locs : List Loc} (hp : List.Perm ws ws') (h : Hd D A s ws H locs) : Hd D A s ws' H locs := ⟨h.1.perm hp, h.2.1.perm hp, h.2.2⟩
theorem Hd.drop {D : va_G} {A : Nat → Prop} {s : State} {a b : va_W} {H : Heap} {locs : List Loc} (h : Hd D A s (a ++ b) H locs) : Hd D A s a H locs := ⟨h.1.left, h.2.1.left, h.2.2⟩
/-- what a call gives back, beside what it did not know of -/
theorem joinP {D : va_G} {A : Nat → Prop} {s : State} {wc wr w1 : va_W} {H H1 : Heap} {locs locs1 : List Loc} (hH : Hd D A s (wc ++ wr) H locs) (hF : ∀ q, va_A wc H.size q → A q) (hk : ∀ q : Nat, q < H.size → ¬ va_A wc H.size q → H1[q]? = H[q]?) (hP1 : va_P D vwCl w1 H1) (hD1 : va_D (va_A wc H.size) w1) (hS : va_S A s.heap H1 locs1) : Hd D A s (w1 ++ wr) H1 locs1 := by
  have hnot : ∀ (k : Nat) (q : Nat × va_E), wr[k]? = some q → q.1 < H.size ∧ ¬ va_A wc H.size q.1 := by
    intro k q hq
    have hl := (hH.1.right k q hq).lt
    refine ⟨hl, ?_⟩
    rintro (⟨i, ee, hi⟩ | h)
    · exact hH.2.1.cross hi hq rfl
    · omega
  refine ⟨hP1.app (fun k q hq => (hH.1.right k q hq).kept (hk q.1 (hnot k q hq).1 (hnot k q hq).2)), (hD1.weaken (fun _ q _ h => hF q.1 h)).app hH.2.1.right (fun i j p q hp hq e => ?_), hS⟩
  exact (hnot j q hq).2 (by rw [← e]; exact hD1.2 i p hp)
theorem preS_pre {D : va_G} {cI cB : ClassId} {w0 : va_W} {A : Nat → Prop} {s : State} {H : Heap} {av : List Value} (hP : va_P D vwCl w0 H) (hD : va_D A w0) (hK : va_K D vwCl (tyL cI cB) s) (hN : NW s) : PreS s H (va_Pc av (pre D cI cB w0 H.size)) av :=
  ⟨pre_blind, fun U hU hW => ⟨rfl, by rw [hU], by rw [hU]; exact hP, va_K.moved hW.alike hK, hD.weaken (fun _ _ _ _ => trivial), hN.warm hW⟩⟩
theorem preV_pre {D : va_G} {cI cB : ClassId} {w0 : va_W} {A : Nat → Prop} {s : State} {H : Heap} {As : List Value} {b : Nat} {C : String} {T : u_T} {N ci : Nat} {fs : List Value} (hP : va_P D vwCl w0 H) (hD : va_D A w0) (hK : va_K D vwCl (tyL cI cB) s) (hN : NW s) (hc : vwCl[ci]? = some (C, T, N)) (q0 : Nat) (he : w0[q0]? = some (b, .inr (ci, fs))) : PreV s H C b (va_Pc (.ref b :: As) (pre D cI cB w0 H.size)) As := by
  obtain ⟨h1, h2⟩ := preS_pre (av := .ref b :: As) hP hD hK hN
  exact ⟨h1, va_recv hK hP hc he, h2⟩
/-! contracts that make objects: the world behind them is known by 'post' alone -/
def CN (l : Launch) (D : va_G) (cI cB : ClassId) (y : MethodName) (wy : List Cond) (rm : Room) (av : List Value) (w0 : va_W) (mc ms : Nat) (post : va_W → Prop) : Prop := ∀ sz, Met l y wy rm (va_Pc av (pre D cI cB w0 sz)) (va_Qv (fun w1 : va_W => post w1) (fun w1 t => va_P D vwCl w1 t.heap ∧ va_D (va_A w0 sz) w1) (va_A w0 sz)) mc ms (va_A w0 sz)
def CJ (l : Launch) (D : va_G) (cI cB : ClassId) (y : MethodName) (wy : List Cond) (rm : Room) (av : List Value) (w0 : va_W) (mc ms : Nat) (post : Int32 → va_W → Prop) : Prop := ∀ sz, Met l y wy rm (va_Pc av (pre D cI cB w0 sz)) (va_Qi (fun (x : Int32) (w1 : va_W) => post x w1) (fun w1 t => va_P D vwCl w1 t.heap ∧ va_D (va_A w0 sz) w1) (va_A w0 sz)) mc ms (va_A w0 sz)
def CR (l : Launch) (D : va_G) (cI cB : ClassId) (y : MethodName) (wy : List Cond) (rm : Room) (av : List Value) (w0 : va_W) (mc ms : Nat) (post : Nat → va_W → Prop) : Prop := ∀ sz, Met l y wy rm (va_Pc av (pre D cI cB w0 sz)) (va_Qr (fun _ : va_W => True) (fun w1 a t => post a w1 ∧ va_P D vwCl w1 t.heap ∧ va_D (va_A w0 sz) w1) (va_A w0 sz)) mc ms (va_A w0 sz)
theorem CN.of {l : Launch} {D : va_G} {cI cB : ClassId} {y : MethodName} {wy ws' : List Cond} {rm : Room} {av : List Value} {w0 : va_W} {mc ms : Nat} {post : va_W → Prop} {cc : ByteArray} {maxL : Nat} (hy : plainFor y = true) (hw : wy = Cond.code y cc maxL none :: ws') (hn : (lg_sl av).length ≤ maxL)
    (body : ∀ p e s m args below meth c ls A Q, At p s m meth c cc maxL none y.cls y.name wy args D cI cB → Hd D A s w0 s.heap [] → (∀ q : Nat, s.heap.size ≤ q → A q) → lv_has ls maxL (lv_args 0 av) → (∀ (ws : va_W) (pc : Nat) (ls : Array Slot) (H : Heap) (locs : List Loc), Hd D A s ws H locs → post ws → decode cc pc = .ok (.return_, 1) → W p l e rm s m args below meth c H locs mc ms Q (F0 m pc ls [])) → W p l e rm s m args below meth c s.heap [] 0 0 Q (F0 m 0 ls [])) : CN l D cI cB y wy rm av w0 mc ms post := by
  intro sz
  refine va_MetF (cc := cc) (maxL := maxL) (ret := none) hy hw ?_
  intro p e s m args below meth c s₁ B hml hv
  obtain ⟨rfl, hsz, hP, hK, hD0, hN⟩ := hv
  subst hsz
  have hl := lv_entry av (n := maxL) hn
  rw [lg_entry_eq]
  exact body p e s m _ below meth c _ _ _ ⟨B.exec, B.bytes, B.returns, B.notSynchronized, (name_of_methodNamed B.named B.method).1, hml, findClass_of_methodNamed B.named, atoms_spec (ws := wy) B.pre, hK, hN⟩ ⟨hP, hD0.self (sz := s.heap.size), va_S.rf⟩ (fun q h => Or.inr h) hl (fun ws pc ls H locs hH h hd => W.vret B.exec B.bytes B.returns (fun t ht _ => ⟨⟨ws, rfl, h, by rw [ht]; exact hH.1, hH.2.1⟩, hH.2.2.F ht⟩) hH.2.2.2.2 hd B.notSynchronized)
theorem CJ.of {l : Launch} {D : va_G} {cI cB : ClassId} {y : MethodName} {wy ws' : List Cond} {rm : Room} {av : List Value} {w0 : va_W} {mc ms : Nat} {post : Int32 → va_W → Prop} {cc : ByteArray} {maxL : Nat} {ty : FieldType} (hy : plainFor y = true) (hw : wy = Cond.code y cc maxL (some ty) :: ws') (hn : (lg_sl av).length ≤ maxL)
    (body : ∀ p e s m args below meth c ls A Q, At p s m meth c cc maxL (some ty) y.cls y.name wy args D cI cB → Hd D A s w0 s.heap [] → (∀ q : Nat, s.heap.size ≤ q → A q) → lv_has ls maxL (lv_args 0 av) → (∀ (ws : va_W) (v : Int32) (pc : Nat) (ls : Array Slot) (H : Heap) (locs : List Loc), Hd D A s ws H locs → post v ws → narrow ty (.int v) = .int v → decode cc pc = .ok (.ireturn, 1) → W p l e rm s m args below meth c H locs mc ms Q (F0 m pc ls [.int v])) → W p l e rm s m args below meth c s.heap [] 0 0 Q (F0 m 0 ls [])) : CJ l D cI cB y wy rm av w0 mc ms post := by
  intro sz
  refine va_MetF (cc := cc) (maxL := maxL) (ret := some ty) hy hw ?_
  intro p e s m args below meth c s₁ B hml hv
  obtain ⟨rfl, hsz, hP, hK, hD0, hN⟩ := hv
  subst hsz
  have hl := lv_entry av (n := maxL) hn
  rw [lg_entry_eq]
  exact body p e s m _ below meth c _ _ _ ⟨B.exec, B.bytes, B.returns, B.notSynchronized, (name_of_methodNamed B.named B.method).1, hml, findClass_of_methodNamed B.named, atoms_spec (ws := wy) B.pre, hK, hN⟩ ⟨hP, hD0.self (sz := s.heap.size), va_S.rf⟩ (fun q h => Or.inr h) hl (fun ws v pc ls H locs hH h hnar hd => W.zret B.exec B.bytes B.returns hnar (fun t ht _ => ⟨⟨v, ws, rfl, h, by rw [ht]; exact hH.1, hH.2.1⟩, hH.2.2.F ht⟩) hH.2.2.2.2 hd B.notSynchronized)
theorem CR.of {l : Launch} {D : va_G} {cI cB : ClassId} {y : MethodName} {wy ws' : List Cond} {rm : Room} {av : List Value} {w0 : va_W} {mc ms : Nat} {post : Nat → va_W → Prop} {cc : ByteArray} {maxL : Nat} {C : String} (hy : plainFor y = true) (hw : wy = Cond.code y cc maxL (some (.object C)) :: ws') (hn : (lg_sl av).length ≤ maxL)
    (body : ∀ p e s m args below meth c ls A Q, At p s m meth c cc maxL (some (.object C)) y.cls y.name wy args D cI cB → Hd D A s w0 s.heap [] → (∀ q : Nat, s.heap.size ≤ q → A q) → lv_has ls maxL (lv_args 0 av) → (∀ (ws : va_W) (a : Nat) (pc : Nat) (ls : Array Slot) (H : Heap) (locs : List Loc), Hd D A s ws H locs → post a ws → decode cc pc = .ok (.areturn, 1) → W p l e rm s m args below meth c H locs mc ms Q (F0 m pc ls [.ref a])) → W p l e rm s m args below meth c s.heap [] 0 0 Q (F0 m 0 ls [])) : CR l D cI cB y wy rm av w0 mc ms post := by
  intro sz
  refine va_MetF (cc := cc) (maxL := maxL) (ret := some (.object C)) hy hw ?_
  intro p e s m args below meth c s₁ B hml hv
  obtain ⟨rfl, hsz, hP, hK, hD0, hN⟩ := hv
  subst hsz
  have hl := lv_entry av (n := maxL) hn
  rw [lg_entry_eq]
  exact body p e s m _ below meth c _ _ _ ⟨B.exec, B.bytes, B.returns, B.notSynchronized, (name_of_methodNamed B.named B.method).1, hml, findClass_of_methodNamed B.named, atoms_spec (ws := wy) B.pre, hK, hN⟩ ⟨hP, hD0.self (sz := s.heap.size), va_S.rf⟩ (fun q h => Or.inr h) hl (fun ws a pc ls H locs hH h hd => W.aret B.exec B.bytes B.returns (Or.inl ⟨_, rfl⟩) (Or.inr ⟨a, rfl⟩) (fun t ht _ => ⟨⟨ws, a, rfl, trivial, h, by rw [ht]; exact hH.1, hH.2.1⟩, hH.2.2.F ht⟩) hH.2.2.2.2 hd B.notSynchronized)
section
variable {p : Program} {l : Launch} {e : Env} {R : Room} {s : State} {m : MethodId} {args : Array Value} {below : List Frame} {meth : Method} {c : Code} {H : Heap} {locs : List Loc} {cells slots : Nat} {Q : State → Prop} {pc : Nat} {ls : Array Slot} {rest st0 : List Value} {cc : ByteArray} {D : va_G} {A : Nat → Prop} {ws ws' w0 w1 wc wr : va_W} {cI cB : ClassId} {a mc ms : Nat} {av : Array Value}
theorem freeP (hH : Hd D A s (wc ++ wr) H locs) (hA : ∀ q : Nat, s.heap.size ≤ q → A q) : ∀ q, va_A wc H.size q → A q := by
  rintro q (⟨k, ee, h⟩ | h)
  · exact hH.2.1.left.2 k _ h
  · exact hA q (Nat.le_trans hH.2.2.1 h)
theorem kCN {post : va_W → Prop} (hr : va_Run p l e R s m args below meth c H locs cells slots mc ms (F0 m pc ls st0) rest (va_Qv (fun w1 : va_W => post w1) (fun w1 t => va_P D vwCl w1 t.heap ∧ va_D (va_A wc H.size) w1) (va_A wc H.size) av) (va_A wc H.size)) (hH : Hd D A s (wc ++ wr) H locs) (hA : ∀ q : Nat, s.heap.size ≤ q → A q)
    (kk : ∀ w1 H1 locs1, post w1 → Hd D A s (w1 ++ wr) H1 locs1 → W p l e R s m args below meth c H1 locs1 (cells + mc) (slots + ms) Q (F0 m (pc + 3) ls rest)) : W p l e R s m args below meth c H locs cells slots Q (F0 m pc ls st0) := by
  have hF := freeP hH hA
  refine va_callv hr hH.2.2 (fun q _ h => hF q h) hF (fun u t H1 locs1 ht hvm hp hB hz1 hk1 hS => ?_)
  rw [ht] at hB
  exact kk u H1 locs1 hp (joinP hH hF hk1 hB.1 hB.2 hS)
theorem kCJ {post : Int32 → va_W → Prop} (hr : va_Run p l e R s m args below meth c H locs cells slots mc ms (F0 m pc ls st0) rest (va_Qi (fun (x : Int32) (w1 : va_W) => post x w1) (fun w1 t => va_P D vwCl w1 t.heap ∧ va_D (va_A wc H.size) w1) (va_A wc H.size) av) (va_A wc H.size)) (hH : Hd D A s (wc ++ wr) H locs) (hA : ∀ q : Nat, s.heap.size ≤ q → A q)
    (kk : ∀ x w1 H1 locs1, post x w1 → Hd D A s (w1 ++ wr) H1 locs1 → W p l e R s m args below meth c H1 locs1 (cells + mc) (slots + ms) Q (F0 m (pc + 3) ls (.int x :: rest))) : W p l e R s m args below meth c H locs cells slots Q (F0 m pc ls st0) := by
  have hF := freeP hH hA
  refine va_calli hr hH.2.2 (fun q _ h => hF q h) hF (fun x u t H1 locs1 ht hvm hp hB hz1 hk1 hS => ?_)
  rw [ht] at hB
  exact kk x u H1 locs1 hp (joinP hH hF hk1 hB.1 hB.2 hS)
theorem kCR {post : Nat → va_W → Prop} (hr : va_Run p l e R s m args below meth c H locs cells slots mc ms (F0 m pc ls st0) rest (va_Qr (fun _ : va_W => True) (fun w1 a t => post a w1 ∧ va_P D vwCl w1 t.heap ∧ va_D (va_A wc H.size) w1) (va_A wc H.size) av) (va_A wc H.size)) (hH : Hd D A s (wc ++ wr) H locs) (hA : ∀ q : Nat, s.heap.size ≤ q → A q)
    (kk : ∀ x w1 H1 locs1, post x w1 → Hd D A s (w1 ++ wr) H1 locs1 → W p l e R s m args below meth c H1 locs1 (cells + mc) (slots + ms) Q (F0 m (pc + 3) ls (.ref x :: rest))) : W p l e R s m args below meth c H locs cells slots Q (F0 m pc ls st0) := by
  have hF := freeP hH hA
  refine va_callr hr hH.2.2 (fun q _ h => hF q h) hF (fun u x t H1 locs1 ht hvm hp hB hz1 hk1 hS => ?_)
  rw [ht] at hB
  exact kk x u H1 locs1 hB.1 (joinP hH hF hk1 hB.2.1 hB.2.2 hS)
/-- a call that makes nothing, on the first cells of the world -/
theorem kCIp {r : Int32} (hr : va_Run p l e R s m args below meth c H locs cells slots 0 0 (F0 m pc ls st0) rest (va_Qi (fun x (_ : Unit) => x = r) (fun _ t => va_P D vwCl w1 t.heap) (va_A w0 H.size) av) (va_A w0 H.size)) (hH : Hd D A s (w0 ++ wr) H locs) (hA : ∀ q : Nat, s.heap.size ≤ q → A q) (ha : w1.map (fun q => q.1) = w0.map (fun q => q.1))
    (kk : ∀ H1 locs1, Hd D A s (w1 ++ wr) H1 locs1 → W p l e R s m args below meth c H1 locs1 cells slots Q (F0 m (pc + 3) ls (.int r :: rest))) : W p l e R s m args below meth c H locs cells slots Q (F0 m pc ls st0) := by
  have hF := freeP hH hA
  refine va_calli hr hH.2.2 (fun q _ h => hF q h) hF (fun r' u t H1 locs1 ht hvm hr' hB hz1 hk1 hS => ?_)
  rw [ht] at hB
  rw [hr']
  exact kk H1 locs1 (joinP hH hF hk1 hB ((hH.2.1.left.self (sz := H.size)).ad ha) hS)
theorem kCVp (hr : va_Run p l e R s m args below meth c H locs cells slots 0 0 (F0 m pc ls st0) rest (va_Qv (fun _ : Unit => True) (fun _ t => va_P D vwCl w1 t.heap) (va_A w0 H.size) av) (va_A w0 H.size)) (hH : Hd D A s (w0 ++ wr) H locs) (hA : ∀ q : Nat, s.heap.size ≤ q → A q) (ha : w1.map (fun q => q.1) = w0.map (fun q => q.1))
    (kk : ∀ H1 locs1, Hd D A s (w1 ++ wr) H1 locs1 → W p l e R s m args below meth c H1 locs1 cells slots Q (F0 m (pc + 3) ls rest)) : W p l e R s m args below meth c H locs cells slots Q (F0 m pc ls st0) := by
  have hF := freeP hH hA
  refine va_callv hr hH.2.2 (fun q _ h => hF q h) hF (fun u t H1 locs1 ht hvm _ hB hz1 hk1 hS => ?_)
  rw [ht] at hB
  exact kk H1 locs1 (joinP hH hF hk1 hB ((hH.2.1.left.self (sz := H.size)).ad ha) hS)
/-- a new row of ints -/
theorem x_newa {n : Int32} {N : Nat} (hexec : p.tables.exec = Jvm.exec) (hb : c.code = cc) (harr : (Cond.arrayClass .int).before args s = true) (hK : va_K D vwCl (tyL cI cB) s) (hH : Hd D A s ws H locs) (hA : ∀ q : Nat, s.heap.size ≤ q → A q) (hn : ¬ n < 0) (hN : n.toNatClampNeg = N) (hbytes : N * 4 ≤ 536870912) (hcells : cells + 1 ≤ R.cells) (hslots : slots + N ≤ R.slots) (hdg : decode cc pc = .ok (.newarray .int, 2))
    (kk : ∀ (q : Nat) (H1 : Heap), Hd D A s (ws ++ [(q, .inl (cI, N, .inl (fun _ => 0)))]) H1 locs → W p l e R s m args below meth c H1 locs (cells + 1) (slots + N) Q (F0 m (pc + 2) ls (.ref q :: rest))) : W p l e R s m args below meth c H locs cells slots Q (F0 m pc ls (.int n :: rest)) := by
  refine va_newa (atype := .int) (ty := .int) (a0 := (N, Sum.inl (fun _ => 0))) hexec hb harr rfl hK hH.1 hH.2.1 hH.2.2 hA (fun cA => rfl) hn hN hbytes hcells hslots hdg (fun q cA H1 hK2 hP2 hD2 hS2 => ?_)
  have h1 : s.vm.findClass ("[" ++ FieldType.int.toString) = some cI := (hK.2 0 (cI, .int) rfl).2
  have h2 : s.vm.findClass ("[" ++ FieldType.int.toString) = some cA := (hK2.2 2 (cA, .int) rfl).2
  have h3 : cA = cI := Option.some.inj (h2.symm.trans h1)
  subst h3
  exact kk q H1 ⟨hP2, hD2, hS2⟩
/-- a new row of references, all null -/
theorem x_newq {own : String} {index N : Nat} {n : Int32} (hexec : p.tables.exec = Jvm.exec) (hb : c.code = cc) (hown : s.vm.findClass own = some m.cls) (hclink : (Cond.classLink own index "PulseWheel$Bench").before args s = true) (hover : va_AO "PulseWheel$Bench" s) (hK : va_K D vwCl (tyL cI cB) s) (hH : Hd D A s ws H locs) (hA : ∀ q : Nat, s.heap.size ≤ q → A q) (hn : ¬ n < 0) (hN : n.toNatClampNeg = N) (hbytes : N * 4 ≤ 536870912) (hcells : cells + 1 ≤ R.cells) (hslots : slots + N ≤ R.slots) (hdg : decode cc pc = .ok (.anewarray index, 3))
    (kk : ∀ (q : Nat) (H1 : Heap), Hd D A s (ws ++ [(q, .inl (cB, N, .inr (.inr (.inr (.inr (fun _ => none))))))]) H1 locs → W p l e R s m args below meth c H1 locs (cells + 1) (slots + N) Q (F0 m (pc + 3) ls (.ref q :: rest))) : W p l e R s m args below meth c H locs cells slots Q (F0 m pc ls (.int n :: rest)) := by
  refine va_newq hexec hb hown hclink hover hK hH.1 hH.2.1 hH.2.2 hA hn hN hbytes hcells hslots hdg (fun q cA H1 hK2 hP2 hD2 hS2 => ?_)
  obtain ⟨_, _, _, _, _, h1⟩ := (hK.2 1 (cB, .object "PulseWheel$Bench") rfl).2
  obtain ⟨_, _, _, _, _, h2⟩ := (hK2.2 2 (cA, .object "PulseWheel$Bench") rfl).2
  have h3 : cA = cB := Option.some.inj (h2.symm.trans h1)
  subst h3
  exact kk q H1 ⟨hP2, hD2, hS2⟩
/-- a new object, its fields as they are born -/
theorem x_newc {own C : String} {T : u_T} {N ci index : Nat} {Ts : List Cond} {fs : List Value} {ty : Nat → FieldType} (hexec : p.tables.exec = Jvm.exec) (hb : c.code = cc) (hts : ∀ w ∈ Ts, w.before args s = true) (hin : ∀ w ∈ u_ws C T N, w ∈ Ts) (hty : ∀ k, k < N → parseFieldDescriptor (T k).2.2.1 = some (ty k)) (hown : s.vm.findClass own = some m.cls) (hcl : (Cond.classLink own index C).before args s = true) (hinst : (Cond.instantiable C N).before args s = true) (hini : (Cond.initialized C).before args s = true) (hK : va_K D vwCl (tyL cI cB) s) (hH : Hd D A s ws H locs) (hA : ∀ q : Nat, s.heap.size ≤ q → A q) (hc : vwCl[ci]? = some (C, T, N)) (hfs : ∀ j, j < N → defaultValue (ty j) = vp_V fs j) (hcells : cells + 1 ≤ R.cells) (hslots : slots + N ≤ R.slots) (hdg : decode cc pc = .ok (.new index, 3))
    (kk : ∀ (q : Nat) (H1 : Heap), Hd D A s (ws ++ [(q, .inr (ci, fs))]) H1 locs → W p l e R s m args below meth c H1 locs (cells + 1) (slots + N) Q (F0 m (pc + 3) ls (.ref q :: rest))) : W p l e R s m args below meth c H locs cells slots Q (F0 m pc ls rest) :=
  va_new hexec hb hts hin ty hty hown hcl hinst hini hK hH.1 hH.2.1 hH.2.2 hA hc hfs hcells hslots hdg (fun q H1 h1 h2 h3 => kk q H1 ⟨h1, h2, h3⟩)
end
