/-! ### an event -/
theorem mod_ne {i n : Nat} (h1 : i < n) (h2 : n < i + 300) : ¬ i % 300 = n % 300 := by omega
/-- the log, with one event more: its sort so, at tick t + 1 -/
def Adds (c c' : Tb) (g g' : Nat → Int32) (t n : Nat) (so pl : Int32) : Prop := (c' 3 4 = streakV so (c 3 4) ∧ c' 7 2 = c 7 2 ∧ g' 16 = g 16) ∧ (c' 4 = upd (c 4) (n % 300) so ∧ c' 5 = upd (c 5) (n % 300) (nI (t + 1)) ∧ c' 6 = upd (c 6) (n % 300) pl) ∧ g' 9 = nI (n + 1) ∧ ∀ k, k < 300 → g' (20 + k) = (if k = n % 300 then so else g (20 + k)) ∧ g' (320 + k) = (if k = n % 300 then nI (t + 1) else g (320 + k)) ∧ g' (620 + k) = (if k = n % 300 then pl else g (620 + k))
section
variable {c c' : Tb} {g g' : Nat → Int32} {t n Z E : Nat} {so pl : Int32}
theorem Lg.add (ha : Adds c c' g g' t n so pl) (h : Lg c g t n) : Lg c' g' (t + 1) (n + 1) := by
  obtain ⟨_, ⟨h4, h5, h6⟩, g9, hg⟩ := ha
  refine ⟨g9, fun k hk hn => ?_⟩
  obtain ⟨k4, k5, k6⟩ := hg k hk
  rw [h4, h5, h6, k4, k5, k6]
  unfold upd
  by_cases e : k = n % 300
  · simp only [if_pos e]
    exact ⟨trivial, trivial, trivial, t + 1, by omega, by omega, rfl⟩
  · simp only [if_neg e]
    obtain ⟨l4, l5, l6, a, a1, a2, a3⟩ := h.2 k hk (by omega)
    exact ⟨l4, l5, l6, a, a1, by omega, a3⟩
theorem at_old (ha : Adds c c' g g' t n so pl) {j : Nat} (h1 : j < n) (h2 : n < j + 300) : g' (320 + j % 300) = g (320 + j % 300) := by
  have := (ha.2.2.2 (j % 300) (Nat.mod_lt _ (by decide))).2.1
  rw [this, if_neg (mod_ne h1 h2)]
theorem at_new (ha : Adds c c' g g' t n so pl) : g' (320 + n % 300) = nI (t + 1) := by
  have := (ha.2.2.2 (n % 300) (Nat.mod_lt _ (by decide))).2.1
  rw [this, if_pos rfl]
theorem Ze.add (ht : t < 1000000) (ha : Adds c c' g g' t n so pl) (h : Ze c g t n Z E) : Ze c' g' (t + 1) (n + 1) Z E := by
  obtain ⟨a1, a2, a3, a4, a5, a6⟩ := h
  refine ⟨ha.1.2.2.trans a1, by omega, ha.1.2.1.trans a3, by omega, a5, fun j hj hj2 => ?_⟩
  rcases Nat.lt_or_ge j n with q | q
  · rw [at_old ha q (by omega)]
    exact a6 j q (by omega)
  · have e : j = n := by omega
    subst e
    rw [at_new ha]
    constructor
    · intro z
      have := (nI_leI (by omega) (by omega)).mp z
      omega
    · intro z; omega
theorem Mo.add (ht : t < 1000000) (ha : Adds c c' g g' t n so pl) (hL : Lg c g t n) (h : Mo g n) : Mo g' (n + 1) := by
  intro i j h1 h2 h3
  rcases Nat.lt_or_ge j n with q | q
  · rw [at_old ha q (by omega), at_old ha (show i < n by omega) (by omega)]
    exact h i j h1 q (by omega)
  · have e : j = n := by omega
    subst e
    rw [at_new ha, at_old ha h1 (by omega)]
    have hm : i % 300 ≤ i := Nat.mod_le _ _
    obtain ⟨_, _, _, a, a1, a2, a3⟩ := hL.2 (i % 300) (Nat.mod_lt _ (by decide)) (by omega)
    rw [a3]
    exact (nI_leI (by omega) (by omega)).mpr (by omega)
theorem srt_0 (ha : Adds c c' g g' t n so pl) : srt g' (n + 1) 0 = so := by
  have := (ha.2.2.2 (n % 300) (Nat.mod_lt _ (by decide))).1
  rw [if_pos rfl] at this
  exact this
theorem srt_s (ha : Adds c c' g g' t n so pl) {k : Nat} (h1 : k < n) (h2 : k + 1 < 300) : srt g' (n + 1) (k + 1) = srt g n k := by
  unfold srt
  have e : n + 1 - 1 - (k + 1) = n - 1 - k := by omega
  rw [e]
  have := (ha.2.2.2 ((n - 1 - k) % 300) (Nat.mod_lt _ (by decide))).1
  rw [if_neg (mod_ne (by omega) (by omega))] at this
  exact this
theorem run_one (ha : Adds c c' g g' t n so pl) (h : 0 < n → srt g n 0 ≠ so) : runOf g' (n + 1) 1 so := by
  refine ⟨by omega, fun k h1 h2 => ?_, fun h1 h2 => ?_⟩
  · rw [show k = 0 by omega]; exact srt_0 ha
  · rw [srt_s ha (k := 0) (by omega) (by omega)]; exact h (by omega)
theorem run_s {q : Nat} (ha : Adds c c' g g' t n so pl) (h : runOf g n q so) : runOf g' (n + 1) (q + 1) so := by
  obtain ⟨hq, hall, hstop⟩ := h
  refine ⟨by omega, fun k h1 h2 => ?_, fun h1 h2 => ?_⟩
  · rcases k with _ | k
    · exact srt_0 ha
    · rw [srt_s ha (by omega) h2]; exact hall k (by omega) (by omega)
  · rw [srt_s ha (by omega) h2]; exact hstop (by omega) (by omega)
theorem neg_s {q : Nat} (h : q < 2000000) : -nI q + (-1) = -nI (q + 1) := by
  apply Int32.toInt_inj.mp
  have e1 : (-nI q).toInt = -(q : Int) := by rw [Jvm.Kit.i32_neg (by rw [nI_toInt (by omega)]; omega), nI_toInt (by omega)]
  have e2 : (-nI (q + 1)).toInt = -((q + 1 : Nat) : Int) := by rw [Jvm.Kit.i32_neg (by rw [nI_toInt (by omega)]; omega), nI_toInt (by omega)]
  have e3 : (-1 : Int32).toInt = -1 := by decide
  rw [Jvm.Kit.i32_add (by rw [e1, e3]; omega) (by rw [e1, e3]; omega), e1, e2, e3]
  omega
theorem neg_lt {q : Nat} (h1 : 1 ≤ q) (h : q < 2000000) : ¬ 0 ≤ -nI q := by
  intro z
  have z2 := i32_nn.mp z
  rw [Jvm.Kit.i32_neg (by rw [nI_toInt (by omega)]; omega), nI_toInt (by omega)] at z2
  omega
theorem Sk.add (hn : n < 1000000) (ha : Adds c c' g g' t n so pl) (hso : so = 1 ∨ so = -1 ∨ so = 0) (h : Sk c g n) : Sk c' g' (n + 1) := by
  have e := ha.1.1
  rcases hso with hso | hso | hso
  · subst hso
    refine Or.inr ?_
    rcases h with ⟨hs, hz⟩ | ⟨q, hq1, ⟨hs, hr⟩ | ⟨hs, hr⟩⟩
    · refine ⟨1, by omega, Or.inl ⟨by rw [e, hs]; decide, run_one ha (fun h0 => by rw [hz.resolve_left (by omega)]; decide)⟩⟩
    · have hqn := hr.1
      refine ⟨q + 1, by omega, Or.inl ⟨?_, run_s ha hr⟩⟩
      rw [e, hs]
      unfold streakV
      rw [if_pos rfl, if_pos (show (0 : Int32) < nI q from (nI_ltI (a := 0) (by decide) (by omega)).mpr (by omega))]
      exact nI_1 q
    · have hqn := hr.1
      refine ⟨1, by omega, Or.inl ⟨?_, run_one ha (fun h0 => by rw [hr.2.1 0 (by omega) (by decide)]; decide)⟩⟩
      rw [e, hs]
      unfold streakV
      rw [if_pos rfl, if_neg (fun z => neg_lt hq1 (by omega) (Int32.le_of_lt z))]
      rfl
  · subst hso
    refine Or.inr ?_
    rcases h with ⟨hs, hz⟩ | ⟨q, hq1, ⟨hs, hr⟩ | ⟨hs, hr⟩⟩
    · refine ⟨1, by omega, Or.inr ⟨by rw [e, hs]; decide, run_one ha (fun h0 => by rw [hz.resolve_left (by omega)]; decide)⟩⟩
    · have hqn := hr.1
      refine ⟨1, by omega, Or.inr ⟨?_, run_one ha (fun h0 => by rw [hr.2.1 0 (by omega) (by decide)]; decide)⟩⟩
      rw [e, hs]
      unfold streakV
      rw [if_neg (by decide), if_pos rfl, if_pos (Int32.not_lt.mp (nI_pos (by omega)))]
      rfl
    · have hqn := hr.1
      refine ⟨q + 1, by omega, Or.inr ⟨?_, run_s ha hr⟩⟩
      rw [e, hs]
      unfold streakV
      rw [if_neg (by decide), if_pos rfl, if_neg (neg_lt hq1 (by omega))]
      exact neg_s (by omega)
  · subst hso
    exact Or.inl ⟨by rw [e]; unfold streakV; rw [if_neg (by decide), if_neg (by decide)], Or.inr (srt_0 ha)⟩
end
/-! the numbers of a reader between two ticks: hold, turn .. as SR has them, the log up to t -/
def Md (c : Tb) (g : Nat → Int32) (t h T C n S Z E : Nat) : Prop := Sc c g ∧ Rg g t h T C ∧ Lg c g t n ∧ Ze c g t n Z E ∧ Sk c g n ∧ Te c g ∧ Rn c g ∧ Mo g n
theorem Bnd.add {x d : Int32} {t : Nat} (ht : t < 1000000) (hd : -2 ≤ d.toInt ∧ d.toInt ≤ 2) (h : Bnd x t) : Bnd (x + d) (t + 1) := by
  unfold Bnd at *
  rw [Jvm.Kit.i32_add (by omega) (by omega)]
  omega
/-- an event in class and reference -/
theorem ev_md {c c' : Tb} {g g' : Nat → Int32} {t h T C n S Z E : Nat} {so pl dp dl dh df : Int32} (ht : t < 1000000) (hn : n < 1000000) (hso : so = 1 ∨ so = -1 ∨ so = 0) (hd1 : -2 ≤ dp.toInt ∧ dp.toInt ≤ 2) (hd2 : -2 ≤ dl.toInt ∧ dl.toInt ≤ 2) (hd3 : -2 ≤ dh.toInt ∧ dh.toInt ≤ 2) (h0 : Md c g t h T C n S Z E) (ha : Adds c c' g g' t n so pl)
    (hc : c' 3 3 = c 3 3 + 1 ∧ c' 0 7 = c 0 7 + dp ∧ c' 0 8 = c 0 8 + dl ∧ c' 0 9 = c 0 9 + dh ∧ c' 0 12 = c 0 12 + df) (hg : g' 6 = g 6 + dp ∧ g' 7 = g 7 + dl ∧ g' 8 = g 8 + dh ∧ g' 10 = g 10 + df)
    (hc2 : c' 0 4 = c 0 4 ∧ c' 0 5 = c 0 5 ∧ c' 0 6 = c 0 6 ∧ c' 0 13 = c 0 13 ∧ c' 0 14 = c 0 14 ∧ c' 0 10 = c 0 10 ∧ c' 0 11 = c 0 11 ∧ c' 7 1 = c 7 1 ∧ c' 8 = c 8 ∧ c' 1 = c 1)
    (hg2 : ∀ j, (j < 6 ∨ (10 < j ∧ j < 20) ∨ (920 ≤ j ∧ j < 1510)) → g' j = g j) : Md c' g' (t + 1) h T C (n + 1) S Z E := by
  obtain ⟨hSc, hRg, hLg, hZe, hSk, hTe, hRn, hMo⟩ := h0
  obtain ⟨e4, e5, e6, e7, e8, e9, e33, e12, e13, e14, e10, e11, e71⟩ := hSc
  obtain ⟨a1, a2, a3, a4, a5, a6, a7, a8⟩ := hRg
  obtain ⟨p33, p7, p8, p9, p12⟩ := hc
  obtain ⟨q6, q7, q8, q10⟩ := hg
  obtain ⟨u4, u5, u6, u13, u14, u10, u11, u71, u8, u1⟩ := hc2
  have g9 : g' 9 = g 9 + 1 := by rw [ha.2.2.1, hLg.1]; exact (nI_1 n).symm
  refine ⟨⟨?_, ?_, ?_, ?_, ?_, ?_, ?_, ?_, ?_, ?_, ?_, ?_, ?_⟩, ⟨?_, ?_, ?_, ?_, ?_, ?_, ?_, ?_⟩, hLg.add ha, hZe.add ht ha, hSk.add hn ha hso, hTe.of u8 (fun j h1 h2 => hg2 j (Or.inr (Or.inr ⟨by omega, by omega⟩))), ?_, hMo.add ht ha hLg⟩
  · rw [u4, hg2 0 (by omega), e4]
  · rw [u5, hg2 1 (by omega), e5]
  · rw [u6, hg2 2 (by omega), e6]
  · rw [p7, q6, e7]
  · rw [p8, q7, e8]
  · rw [p9, q8, e9]
  · rw [p33, g9, e33]
  · rw [p12, q10, e12]
  · rw [u13, hg2 11 (by omega), e13]
  · rw [u14, hg2 12 (by omega), e14]
  · rw [u10, hg2 13 (by omega), e10]
  · rw [u11, hg2 14 (by omega), e11]
  · rw [u71, hg2 17 (by omega), e71]
  · rw [hg2 0 (by omega)]; exact a1
  · rw [hg2 1 (by omega)]; exact a2
  · rw [hg2 2 (by omega)]; exact a3
  · rw [hg2 13 (by omega)]; exact a4
  · rw [q6]; exact a5.add ht hd1
  · rw [q7]; exact a6.add ht hd2
  · rw [q8]; exact a7.add ht hd3
  · rw [hg2 14 (by omega)]; exact a8.mono (by omega)
  · intro i hi
    rw [u1, hg2 (3 + i) (by omega)]
    exact hRn i hi
theorem upd_comm {g : Nat → Int32} {i j : Nat} {a b : Int32} (h : i ≠ j) : upd (upd g i a) j b = upd (upd g j b) i a := by
  funext k
  unfold upd
  by_cases h1 : k = j
  · rw [if_pos h1, if_neg (by omega), if_pos h1]
  · rw [if_neg h1]
    by_cases h2 : k = i
    · rw [if_pos h2, if_pos h2]
    · rw [if_neg h2, if_neg h2, if_neg h1]
theorem ev_facts {g g' : Nat → Int32} {n : Nat} {a6 a7 a8 so tk pl n1 : Int32} (e : g' = upd (upd (upd (upd (upd (upd (upd g 6 a6) 7 a7) 8 a8) (20 + n % 300) so) (320 + n % 300) tk) (620 + n % 300) pl) 9 n1) : (g' 6 = a6 ∧ g' 7 = a7 ∧ g' 8 = a8 ∧ g' 9 = n1) ∧ (∀ k, k < 300 → g' (20 + k) = (if k = n % 300 then so else g (20 + k)) ∧ g' (320 + k) = (if k = n % 300 then tk else g (320 + k)) ∧ g' (620 + k) = (if k = n % 300 then pl else g (620 + k))) ∧ ∀ j, (j < 6 ∨ (9 < j ∧ j < 20) ∨ 920 ≤ j) → g' j = g j := by
  have hm : n % 300 < 300 := Nat.mod_lt _ (by decide)
  subst e
  unfold upd
  refine ⟨⟨?_, ?_, ?_, ?_⟩, fun k hk => ?_, fun j hj => ?_⟩
  · rw [if_neg (by omega), if_neg (by omega), if_neg (by omega), if_neg (by omega), if_neg (by omega), if_neg (by omega), if_pos rfl]
  · rw [if_neg (by omega), if_neg (by omega), if_neg (by omega), if_neg (by omega), if_neg (by omega), if_pos rfl]
  · rw [if_neg (by omega), if_neg (by omega), if_neg (by omega), if_neg (by omega), if_pos rfl]
  · rw [if_pos rfl]
  · refine ⟨?_, ?_, ?_⟩
    · rw [if_neg (by omega), if_neg (by omega), if_neg (by omega)]
      by_cases h : k = n % 300
      · rw [if_pos h, if_pos (by omega)]
      · rw [if_neg h, if_neg (by omega), if_neg (by omega), if_neg (by omega), if_neg (by omega)]
    · rw [if_neg (by omega), if_neg (by omega)]
      by_cases h : k = n % 300
      · rw [if_pos h, if_pos (by omega)]
      · rw [if_neg h, if_neg (by omega), if_neg (by omega), if_neg (by omega), if_neg (by omega), if_neg (by omega)]
    · rw [if_neg (by omega)]
      by_cases h : k = n % 300
      · rw [if_pos h, if_pos (by omega)]
      · rw [if_neg h, if_neg (by omega), if_neg (by omega), if_neg (by omega), if_neg (by omega), if_neg (by omega), if_neg (by omega)]
  · rw [if_neg (by omega), if_neg (by omega), if_neg (by omega), if_neg (by omega), if_neg (by omega), if_neg (by omega), if_neg (by omega)]
theorem G_ev1 (r : Tb) (b n : Nat) (so : Int32) : G (ev1 r b n so) b = upd (upd (upd (upd (upd (upd (upd (G r b) 6 (G r b 6 + so)) 7 (G r b 7 + so)) 8 (G r b 8 + so)) (20 + n % 300) so) (320 + n % 300) (r 0 4)) (620 + n % 300) (G r b 6 + so)) 9 (G r b 9 + 1) := by
  unfold ev1
  rw [G_up, G_up3, G_up3, G_up3, G_up, G_up, G_up]
  rfl
theorem G_ev0 (r : Tb) (b n : Nat) : G (ev0 r b n) b = upd (upd (upd (upd (upd (upd (upd (upd (G r b) 10 (G r b 10 + 1)) 6 (G r b 6 + 0)) 7 (G r b 7 + (-2))) 8 (G r b 8 + 2)) (20 + n % 300) 0) (320 + n % 300) (r 0 4)) (620 + n % 300) (G r b 6 + 0)) 9 (G r b 9 + 1) := by
  unfold ev0
  rw [G_up, G_up3, G_up3, G_up3, G_up, G_up, G_up, G_up, upd_comm (i := 8) (j := 10) (by decide), upd_comm (i := 7) (j := 10) (by decide), upd_comm (i := 6) (j := 10) (by decide)]
  rfl
theorem slot_new {n : Nat} (hn : n < 1000000) {x : Int32} (e : x = nI n) : slotN (x + 1) 0 = n % 300 := by
  rw [e, nI_1 n]
  have := slot_val (n := n + 1) (j := 0) (by omega) (by omega)
  rw [show n + 1 - 1 - 0 = n by omega] at this
  exact this
theorem Md.mono {c : Tb} {g : Nat → Int32} {t h T C n S Z E : Nat} (hM : Md c g t h T C n S Z E) : Md c g (t + 1) h T C n S Z E := by
  obtain ⟨hSc, hRg, hLg, hZe, hSk, hTe, hRn, hMo⟩ := hM
  exact ⟨hSc, hRg.mono (by omega), hLg.of rfl rfl rfl rfl (fun _ _ _ => rfl) (by omega), hZe.of rfl rfl (fun _ _ _ => rfl) (by omega), hSk, hTe, hRn, hMo⟩
theorem note_sim {c r : Tb} {b t h T C n S Z E : Nat} (ht : t < 1000000) (hn : n < 1000000) (hM : Md c (G r b) t h T C n S Z E) (h4 : r 0 4 = nI (t + 1)) (st : Nat) (hst : st < 4) : Md (noteChangeV c (nI st) (nI (t + 1))) (G (evM r b n (nI st)) b) (t + 1) h T C (evN n (nI st)) S Z E := by
  have e33 : c 3 3 = nI n := hM.1.2.2.2.2.2.2.1.trans hM.2.2.1.1
  have e7 : c 0 7 = G r b 6 := hM.1.2.2.2.1
  have hs : st = 0 ∨ st = 1 ∨ st = 2 ∨ st = 3 := by omega
  have count : ∀ so : Int32, so = 1 ∨ so = -1 → Md (noteCountV c so (nI (t + 1))) (G (ev1 r b n so) b) (t + 1) h T C (n + 1) S Z E := by
    intro so hso
    obtain ⟨⟨q6, q7, q8, q9⟩, hk, hj⟩ := ev_facts (G_ev1 r b n so)
    have d : -2 ≤ so.toInt ∧ so.toInt ≤ 2 := by rcases hso with rfl | rfl <;> decide
    refine ev_md (dp := so) (dl := so) (dh := so) (df := 0) (pl := G r b 6 + so) ht hn (hso.elim Or.inl (fun z => Or.inr (Or.inl z))) d d d hM ⟨⟨rfl, rfl, hj 16 (by omega)⟩, ⟨?_, ?_, ?_⟩, ?_, ?_⟩ ⟨rfl, rfl, rfl, rfl, (Int32.add_zero _).symm⟩ ⟨q6, q7, q8, by rw [hj 10 (by omega), Int32.add_zero]⟩ ⟨rfl, rfl, rfl, rfl, rfl, rfl, rfl, rfl, rfl, rfl⟩ (fun j h => hj j (by omega))
    · show upd (c 4) (slotN (c 3 3 + 1) 0) so = _
      rw [slot_new hn e33]
    · show upd (c 5) (slotN (c 3 3 + 1) 0) (nI (t + 1)) = _
      rw [slot_new hn e33]
    · show upd (c 6) (slotN (c 3 3 + 1) 0) (c 0 7 + so) = _
      rw [slot_new hn e33, e7]
    · rw [q9, hM.2.2.1.1]; exact nI_1 n
    · rw [h4] at hk; exact hk
  rcases hs with rfl | rfl | rfl | rfl
  · exact hM.mono
  · exact count 1 (Or.inl rfl)
  · obtain ⟨⟨q6, q7, q8, q9⟩, hk, hj⟩ := ev_facts (G_ev0 r b n)
    have j10 := hj 10 (by omega)
    have jx : ∀ j, (j < 6 ∨ (10 < j ∧ j < 20) ∨ (920 ≤ j ∧ j < 1510)) → G (ev0 r b n) b j = G r b j := fun j h => by rw [hj j (by omega)]; exact pk_un (by omega)
    show Md (logAdd (up2 (up2 (up2 c 0 12 (c 0 12 + 1)) 0 8 (c 0 8 - 2)) 0 9 (c 0 9 + 2)) 0 (nI (t + 1)) (c 0 7)) (G (ev0 r b n) b) (t + 1) h T C (n + 1) S Z E
    refine ev_md (dp := 0) (dl := -2) (dh := 2) (df := 1) (pl := G r b 6 + 0) ht hn (Or.inr (Or.inr rfl)) (by decide) (by decide) (by decide) hM ⟨⟨rfl, rfl, jx 16 (by omega)⟩, ⟨?_, ?_, ?_⟩, ?_, ?_⟩ ⟨rfl, (Int32.add_zero _).symm, Int32.sub_eq_add_neg _ _, rfl, rfl⟩ ⟨q6, q7, q8, j10.trans pk_us⟩ ⟨rfl, rfl, rfl, rfl, rfl, rfl, rfl, rfl, rfl, rfl⟩ jx
    · show upd (c 4) (slotN (c 3 3 + 1) 0) 0 = _
      rw [slot_new hn e33]
    · show upd (c 5) (slotN (c 3 3 + 1) 0) (nI (t + 1)) = _
      rw [slot_new hn e33]
    · show upd (c 6) (slotN (c 3 3 + 1) 0) (c 0 7) = _
      rw [slot_new hn e33, e7, Int32.add_zero]
    · rw [q9, hM.2.2.1.1]; exact nI_1 n
    · intro k hk3
      obtain ⟨k1, k2, k3⟩ := hk k hk3
      rw [k1, k2, k3, h4, pk_un (show 20 + k ≠ 10 by omega), pk_un (show 320 + k ≠ 10 by omega), pk_un (show 620 + k ≠ 10 by omega)]
      exact ⟨rfl, rfl, rfl⟩
  · exact count (-1) (Or.inr rfl)
