/-! ### the asks answer alike -/
theorem slot_val {n j : Nat} (h : j < n) (hn : n < 2 ^ 31) : slotN (nI n) (nI j) = (n - 1 - j) % 300 := by
  unfold slotN slotV
  have h3 : (n - 1 - j) % 300 < 300 := Nat.mod_lt _ (by decide)
  have e : rem32 (nI (n - 1 - j)) 300 = nI ((n - 1 - j) % 300) := pk_rem (d := 300) (by omega) (by decide) (by decide)
  rw [sub1i h, if_pos (Int32.not_lt.mp (nI_pos (by omega))), e, nI_clamp (by omega)]
theorem latN_val {n j : Nat} (hk : j < 300) (h : j < n) (hn : n < 2 ^ 31) : latN (nI n) (nI j) = (n - 1 - j) % 300 := by
  unfold latN
  have h3 : (n - 1 - j) % 300 < 300 := Nat.mod_lt _ (by decide)
  rw [lat_val hk h hn, nI_clamp (by omega)]
theorem lat_val0 {n : Nat} (h : 0 < n) (hn : n < 2 ^ 31) : latV (nI n) 0 = nI ((n - 1 - 0) % 300) := lat_val (k := 0) (by decide) h hn
theorem latN_val0 {n : Nat} (h : 0 < n) (hn : n < 2 ^ 31) : latN (nI n) 0 = (n - 1 - 0) % 300 := latN_val (j := 0) (by decide) h hn
theorem minV_val {n : Nat} (hn : n < 2 ^ 31) : minV (nI n) 300 = nI (min n 300) := by
  unfold minV
  by_cases h : 300 < n
  · rw [if_pos (show (300 : Int32) < nI n from (nI_ltI (a := 300) (by decide) hn).mpr h), Nat.min_eq_right (by omega)]
    rfl
  · rw [if_neg (show ¬ (300 : Int32) < nI n from fun q => h ((nI_ltI (a := 300) (by decide) hn).mp q)), Nat.min_eq_left (by omega)]
theorem ph_eq : ∀ C, C < 8 → phaseV (nI C) = phOf (nI C) := by decide +kernel
section
variable {c r : Tb} {b t : Nat}
theorem ask_of (h : SR c (G r b) t) (w : Int32) : ofV c w = ofM r b w := by
  obtain ⟨ho, T, C, n, S, Z, E, hnS, hSc, hRg, hLg, hZe, hSk, hPa, hTe, hRn, hMo⟩ := h
  obtain ⟨e4, e5, e6, e7, e8, e9, e33, e12, e13, e14, e10, e11, e71⟩ := hSc
  obtain ⟨_, _, ⟨hC, eC⟩, hh, _⟩ := hRg
  unfold G at e4 e5 e6 e7 e8 e9 e33 e12 e13 e14 e10 eC hh
  have p1 : phaseV (r 1 (b + 2)) = phOf (r 1 (b + 2)) := by rw [eC]; exact ph_eq C hC
  have p2 : (if r 1 (b + 13) = 0 then (0 : Int32) else 1) = r 1 (b + 13) := by
    rcases hh with q | q
    · rw [q]; rfl
    · rw [q]; rfl
  unfold ofV ofM
  rw [e4, e5, e6, e7, e8, e9, e33, e12, e13, e14, e10, p1, p2]
theorem ask_origin (h : SR c (G r b) t) : originV c = originM r b := by
  obtain ⟨ho, T, C, n, S, Z, E, hnS, hSc, hRg, hLg, hZe, hSk, hPa, hTe, hRn, hMo⟩ := h
  obtain ⟨e4, e5, e6, e7, e8, e9, e33, e12, e13, e14, e10, e11, e71⟩ := hSc
  obtain ⟨_, _, _, hh, _⟩ := hRg
  unfold G at e10 e11 hh
  unfold originV originM
  rw [e10, e11]
  rcases hh with q | q
  · rw [q]; rfl
  · rw [q]; rfl
theorem ask_event (ht : t ≤ 1000000) (h : SR c (G r b) t) (k w : Int32) : eventV c k w = eventM r b k w := by
  obtain ⟨ho, T, C, n, S, Z, E, hnS, hSc, hRg, hLg, hZe, hSk, hPa, hTe, hRn, hMo⟩ := h
  obtain ⟨e4, e5, e6, e7, e8, e9, e33, e12, e13, e14, e10, e11, e71⟩ := hSc
  obtain ⟨en, hL⟩ := hLg
  obtain ⟨_, hSt, _⟩ := hPa
  unfold eventV eventM
  rw [e33]
  unfold G at en
  rw [show G r b 9 = r 1 (b + 9) from rfl, en]
  by_cases hk : k < 0
  · have : ¬ 0 ≤ latV (nI n) k := by unfold latV; rw [if_pos hk]; decide
    rw [if_pos hk, if_neg this]
  · rw [if_neg hk]
    obtain ⟨j, hj, rfl⟩ := nI_of hk
    rw [minV_val (by omega)]
    by_cases hjn : j < n ∧ j < 300
    · have h3 : (n - 1 - j) % 300 < 300 := Nat.mod_lt _ (by decide)
      have h4 : (n - 1 - j) % 300 ≤ n - 1 - j := Nat.mod_le _ _
      obtain ⟨l4, l5, l6, _⟩ := hL ((n - 1 - j) % 300) h3 (by omega)
      rw [if_pos ((nI_ltI hj (by omega)).mpr (by omega)), lat_val hjn.2 hjn.1 (by omega), if_pos (Int32.not_lt.mp (nI_pos (by omega))), slot_val hjn.1 (by omega), latN_val hjn.2 hjn.1 (by omega), l4, l5, l6]
      simp only [G, Nat.add_assoc]
    · have hl : ¬ 0 ≤ latV (nI n) (nI j) := by
        rcases Nat.lt_or_ge j 300 with q | q
        · rw [lat_out q (by omega) (by omega)]; decide
        · unfold latV
          rw [if_neg (nI_pos hj), if_pos (show (300 : Int32) ≤ nI j from (nI_leI (a := 300) (by decide) hj).mpr q)]; decide
      rw [if_neg (fun q => hjn (by have := (nI_ltI hj (by omega)).mp q; omega)), if_neg hl]
theorem rowF_run {n q : Nat} {so : Int32} (en : r 1 (b + 9) = nI n) (hn : n < 2 ^ 31) (hq : runOf (G r b) n q so) : ∀ (f k : Nat), k ≤ q → k ≤ 300 → k + f = 301 → rowF r b so f k = min q 300 := by
  obtain ⟨hqn, hall, hstop⟩ := hq
  intro f
  induction f with
  | zero => intro k h1 h2 h3; omega
  | succ f ih =>
    intro k h1 h2 h3
    rw [rowF_s, en]
    by_cases hk : k < 300 ∧ k < n
    · have h4 : (n - 1 - k) % 300 < 300 := Nat.mod_lt _ (by decide)
      rw [lat_val hk.1 hk.2 hn, if_neg (nI_pos (by omega)), latN_val hk.1 hk.2 hn, show b + 20 + (n - 1 - k) % 300 = b + (20 + (n - 1 - k) % 300) by omega]
      by_cases hs : srt (G r b) n k = so
      · have hs' : r 1 (b + (20 + (n - 1 - k) % 300)) = so := hs
        rw [if_pos hs']
        have hkq : k < q := by
          rcases Nat.lt_or_ge k q with z | z
          · exact z
          · have hz : k = q := by omega
            subst hz
            exact absurd hs (hstop hk.2 hk.1)
        exact ih (k + 1) (by omega) (by omega) (by omega)
      · have hs' : ¬ r 1 (b + (20 + (n - 1 - k) % 300)) = so := hs
        rw [if_neg hs']
        have hkq : q ≤ k := by
          rcases Nat.lt_or_ge k q with z | z
          · exact absurd (hall k z hk.1) hs
          · exact z
        omega
    · have hl : latV (nI n) (nI k) < 0 := by
        rcases Nat.lt_or_ge k 300 with z | z
        · rw [lat_out z (by omega) hn]; decide
        · rw [show k = 300 by omega]; unfold latV; rw [if_neg (by decide), if_pos (by decide)]; decide
      rw [if_pos hl]
      omega
theorem ask_row (ht : t ≤ 1000000) (h : SR c (G r b) t) : rowV c = rowM r b := by
  obtain ⟨ho, T, C, n, S, Z, E, hnS, hSc, hRg, hLg, hZe, hSk, hPa, hTe, hRn, hMo⟩ := h
  obtain ⟨en, hL⟩ := hLg
  obtain ⟨_, hSt, _⟩ := hPa
  have en : r 1 (b + 9) = nI n := en
  unfold rowV rowM
  rw [en]
  rcases hSk with ⟨hs, hz⟩ | ⟨q, hq1, hq⟩
  · rw [hs, show minV (absV 0) 300 = 0 by decide]
    rcases Nat.eq_zero_or_pos n with z | z
    · subst z
      rw [if_pos (by decide)]
    · have hz : srt (G r b) n 0 = 0 := hz.resolve_left (by omega)
      have h4 : (n - 1 - 0) % 300 < 300 := Nat.mod_lt _ (by decide)
      rw [lat_val0 z (by omega), if_neg (nI_pos (by omega)), latN_val0 z (by omega), show b + 20 + (n - 1 - 0) % 300 = b + (20 + (n - 1 - 0) % 300) by omega]
      rw [if_pos (show r 1 (b + (20 + (n - 1 - 0) % 300)) = 0 from hz)]
  · have main : ∀ so : Int32, so ≠ 0 → runOf (G r b) n q so → (if latV (nI n) 0 < 0 then (0 : Int32) else if r 1 (b + 20 + latN (nI n) 0) = 0 then 0 else nI (rowF r b (r 1 (b + 20 + latN (nI n) 0)) 300 1)) = nI (min q 300) := by
      intro so hso hr
      have hn0 : 0 < n := by have := hr.1; omega
      have h4 : (n - 1 - 0) % 300 < 300 := Nat.mod_lt _ (by decide)
      have hs0 : r 1 (b + (20 + (n - 1 - 0) % 300)) = so := hr.2.1 0 (by omega) (by decide)
      rw [lat_val0 hn0 (by omega), if_neg (nI_pos (by omega)), latN_val0 hn0 (by omega), show b + 20 + (n - 1 - 0) % 300 = b + (20 + (n - 1 - 0) % 300) by omega, hs0, if_neg hso, rowF_run en (by omega) hr 300 1 hq1 (by decide) (by decide)]
    rcases hq with ⟨hs, hr⟩ | ⟨hs, hr⟩
    · have hqn := hr.1
      rw [main 1 (by decide) hr, hs]
      unfold absV
      rw [if_pos (Int32.not_lt.mp (nI_pos (by omega))), minV_val (by omega)]
    · have hqn := hr.1
      rw [main (-1) (by decide) hr, hs]
      unfold absV
      have hneg : ¬ 0 ≤ -nI q := by
        intro z
        have z2 := i32_nn.mp z
        rw [Jvm.Kit.i32_neg (by rw [nI_toInt (by omega)]; omega), nI_toInt (by omega)] at z2
        omega
      have e : 0 - -nI q = nI q := by
        apply Int32.toInt_inj.mp
        rw [Jvm.Kit.i32_sub (by rw [Jvm.Kit.i32_neg (by rw [nI_toInt (by omega)]; omega), nI_toInt (by omega), show (0 : Int32).toInt = 0 by decide]; omega) (by rw [Jvm.Kit.i32_neg (by rw [nI_toInt (by omega)]; omega), nI_toInt (by omega), show (0 : Int32).toInt = 0 by decide]; omega), Jvm.Kit.i32_neg (by rw [nI_toInt (by omega)]; omega), show (0 : Int32).toInt = 0 by decide]
        omega
      rw [if_neg hneg, e, minV_val (by omega)]
theorem ask_moved (ht : t ≤ 1000000) (h : SR c (G r b) t) (n : Int32) : movedV c (nI t) n = movedM r b n := by
  obtain ⟨ho, T, C, n0, S, Z, E, hnS, hSc, hRg, hLg, hZe, hSk, hPa, hTe, hRn, hMo⟩ := h
  obtain ⟨e4, e5, e6, e7, e8, e9, e33, e12, e13, e14, e10, e11, e71⟩ := hSc
  obtain ⟨eS, hSt, e15, hp⟩ := hPa
  have eS : r 1 (b + 15) = nI S := eS
  have e7 : c 0 7 = r 1 (b + 6) := e7
  unfold movedV movedM
  rw [e15, pk_sub (by omega), show t - (t - S) = S by omega, eS, e7]
  by_cases h1 : n < 1
  · rw [if_pos h1, if_pos h1]
  · rw [if_neg h1, if_neg h1]
    by_cases h5 : 500 < n
    · rw [if_pos h5, if_pos h5]
    · rw [if_neg h5, if_neg h5]
      obtain ⟨d, hd, rfl⟩ := nI_of (x := n) (fun q => h1 (Int32.lt_trans q (by decide)))
      have hd1 : 1 ≤ d := Nat.not_lt.mp (fun q => h1 ((nI_ltI (b := 1) hd (by decide)).mpr q))
      have hd5 : d ≤ 500 := Nat.not_lt.mp (fun q => h5 ((nI_ltI (a := 500) (by decide) hd).mpr q))
      by_cases hS : d ≤ S
      · have hS' : nI d ≤ nI S := (nI_leI hd (by omega)).mpr hS
        rw [if_pos hS', if_pos hS', pk_sub (by omega), pk_sub hS]
        have e1 : pathN (nI (t - d)) = (t - d) % 501 := by
          unfold pathN
          rw [nI_toInt (by omega)]
          omega
        have e2 : ringN (nI (S - d)) = (S - d) % 512 := by
          unfold ringN
          have h3 : (S - d) % 512 < 512 := Nat.mod_lt _ (by decide)
          have e : rem32 (nI (S - d)) 512 = nI ((S - d) % 512) := pk_rem (d := 512) (by omega) (by decide) (by decide)
          rw [e, nI_clamp (by omega)]
        rw [e1, e2, hp d hd5 hS]
        by_cases hdS : d = S
        · rw [if_pos hdS, if_pos (by rw [hdS, Nat.sub_self]; rfl)]
        · rw [if_neg hdS, if_neg (nI_ne0 (by omega) (by omega))]
          simp only [G, Nat.add_assoc]
      · have hS' : ¬ nI d ≤ nI S := fun q => hS ((nI_leI hd (by omega)).mp q)
        rw [if_neg hS', if_neg hS']
theorem ask_tooth (h : SR c (G r b) t) (k : Int32) : toothV c k = toothM r b k := by
  obtain ⟨ho, T, C, n0, S, Z, E, hnS, hSc, hRg, hLg, hZe, hSk, hPa, hTe, hRn, hMo⟩ := h
  obtain ⟨e4, e5, e6, e7, e8, e9, e33, e12, e13, e14, e10, e11, e71⟩ := hSc
  obtain ⟨_, ⟨hT4, hT, eT⟩, _⟩ := hRg
  have e5 : c 0 5 = r 1 (b + 1) := e5
  have eT : r 1 (b + 1) = nI T := eT
  unfold toothV toothM sumAtV
  rw [e5, eT]
  by_cases hk : k < 0
  · rw [if_pos hk, if_pos hk]
  · rw [if_neg hk, if_neg hk]
    obtain ⟨j, hj, rfl⟩ := nI_of hk
    by_cases hjT : j < T
    · rw [if_pos ((nI_ltI hj (by omega)).mpr hjT), if_neg hk, if_neg (fun q => by have := (nI_leI (a := 64) (by decide) hj).mp q; omega), if_neg (fun q => by have := (nI_leI (by omega) hj).mp q; omega), nI_clamp hj, hTe j (by omega)]
      simp only [G, Nat.add_assoc]
    · rw [if_neg (fun q => hjT ((nI_ltI hj (by omega)).mp q)), if_neg hk, if_pos ((nI_leI (by omega) hj).mpr (by omega))]
theorem greatV_congr {f g : Nat → Int32} : ∀ k, (∀ j, j ≤ k → f j = g j) → greatV f k = greatV g k := by
  intro k
  induction k with
  | zero => intro _; rfl
  | succ k ih =>
    intro h
    rw [greatV_s, greatV_s, ih (fun j hj => h j (by omega)), h (greatV g k) (by have := greatV_le g k; omega), h (k + 1) (by omega)]
theorem lastV_le {T : Nat} (h4 : 4 ≤ T) (h : T ≤ 64) : lastV (nI T) ≤ 63 := by
  unfold lastV
  split
  · omega
  · split
    · omega
    · rw [nI_clamp (by omega)]; omega
theorem ask_widest (h : SR c (G r b) t) : widestV c = widestM r b := by
  obtain ⟨ho, T, C, n0, S, Z, E, hnS, hSc, hRg, hLg, hZe, hSk, hPa, hTe, hRn, hMo⟩ := h
  obtain ⟨e4, e5, e6, e7, e8, e9, e33, e12, e13, e14, e10, e11, e71⟩ := hSc
  obtain ⟨_, ⟨hT4, hT, eT⟩, _⟩ := hRg
  have e5 : c 0 5 = r 1 (b + 1) := e5
  have eT : r 1 (b + 1) = nI T := eT
  have e71 : c 7 1 = r 1 (b + 17) := e71
  unfold widestV widestM
  rw [e71, e5, eT, greatV_congr (g := fun j => r 1 (b + 1440 + j)) _ (fun j hj => by rw [hTe j (by have := lastV_le hT4 hT; omega)]; simp only [G, Nat.add_assoc])]
theorem ask_wholes (h : SR c (G r b) t) : c 7 1 = r 1 (b + 17) := by
  obtain ⟨ho, T, C, n0, S, Z, E, hnS, hSc, _⟩ := h
  exact hSc.2.2.2.2.2.2.2.2.2.2.2.2
end
theorem SR.g0 {c : Tb} {r : Tb} {t : Nat} (h : SR c (r 1) t) : SR c (G r (1510 * 0)) t := by
  have e : G r (1510 * 0) = r 1 := by funext j; show r 1 (1510 * 0 + j) = r 1 j; rw [Nat.mul_zero, Nat.zero_add]
  rw [e]; exact h
theorem SR.g1 {c : Tb} {r : Tb} {t : Nat} (h : SR c (fun j => r 1 (1510 + j)) t) : SR c (G r (1510 * 1)) t := h
theorem rdV_congr {α : Type} {rd : Int32} {a b a' b' z : α} (h1 : a = a') (h2 : b = b') : rdV rd a b z = rdV rd a' b' z := by rw [h1, h2]
theorem sim_of {tw : Int32} {tp : Nat → Int32} {t ap : Int32} {r1 r2 : Tb} {I : Nat → Option Img} {r : Tb} (hS : Sim tw tp t ap r1 r2 I r) (rd w : Int32) : rdV rd (ofV r1 w) (ofV r2 w) (-2000000) = rdV rd (ofM r (1510 * 0) w) (ofM r (1510 * 1) w) (-2000000) := by
  obtain ⟨-, ⟨T, eT, hT, e4, eap, s1, s2⟩, -, -⟩ := hS
  exact rdV_congr (ask_of s1.g0 w) (ask_of s2.g1 w)
theorem sim_origin {tw : Int32} {tp : Nat → Int32} {t ap : Int32} {r1 r2 : Tb} {I : Nat → Option Img} {r : Tb} (hS : Sim tw tp t ap r1 r2 I r) (rd : Int32) : rdV rd (originV r1) (originV r2) (-2000000) = rdV rd (originM r (1510 * 0)) (originM r (1510 * 1)) (-2000000) := by
  obtain ⟨-, ⟨T, eT, hT, e4, eap, s1, s2⟩, -, -⟩ := hS
  exact rdV_congr (ask_origin s1.g0) (ask_origin s2.g1)
theorem sim_event {tw : Int32} {tp : Nat → Int32} {t ap : Int32} {r1 r2 : Tb} {I : Nat → Option Img} {r : Tb} (hS : Sim tw tp t ap r1 r2 I r) (rd k w : Int32) : rdV rd (eventV r1 k w) (eventV r2 k w) (-2000000) = rdV rd (eventM r (1510 * 0) k w) (eventM r (1510 * 1) k w) (-2000000) := by
  obtain ⟨-, ⟨T, eT, hT, e4, eap, s1, s2⟩, -, -⟩ := hS
  exact rdV_congr (ask_event hT s1.g0 k w) (ask_event hT s2.g1 k w)
theorem sim_row {tw : Int32} {tp : Nat → Int32} {t ap : Int32} {r1 r2 : Tb} {I : Nat → Option Img} {r : Tb} (hS : Sim tw tp t ap r1 r2 I r) (rd : Int32) : rdV rd (rowV r1) (rowV r2) 0 = rdV rd (rowM r (1510 * 0)) (rowM r (1510 * 1)) 0 := by
  obtain ⟨-, ⟨T, eT, hT, e4, eap, s1, s2⟩, -, -⟩ := hS
  exact rdV_congr (ask_row hT s1.g0) (ask_row hT s2.g1)
theorem sim_moved {tw : Int32} {tp : Nat → Int32} {t ap : Int32} {r1 r2 : Tb} {I : Nat → Option Img} {r : Tb} (hS : Sim tw tp t ap r1 r2 I r) (rd n : Int32) : rdV rd (movedV r1 t n) (movedV r2 t n) (-2000000) = rdV rd (movedM r (1510 * 0) n) (movedM r (1510 * 1) n) (-2000000) := by
  obtain ⟨-, ⟨T, eT, hT, e4, eap, s1, s2⟩, -, -⟩ := hS
  subst eT
  exact rdV_congr (ask_moved hT s1.g0 n) (ask_moved hT s2.g1 n)
theorem sim_tooth {tw : Int32} {tp : Nat → Int32} {t ap : Int32} {r1 r2 : Tb} {I : Nat → Option Img} {r : Tb} (hS : Sim tw tp t ap r1 r2 I r) (rd k : Int32) : rdV rd (toothV r1 k) (toothV r2 k) (-1) = rdV rd (toothM r (1510 * 0) k) (toothM r (1510 * 1) k) (-1) := by
  obtain ⟨-, ⟨T, eT, hT, e4, eap, s1, s2⟩, -, -⟩ := hS
  exact rdV_congr (ask_tooth s1.g0 k) (ask_tooth s2.g1 k)
theorem sim_wholes {tw : Int32} {tp : Nat → Int32} {t ap : Int32} {r1 r2 : Tb} {I : Nat → Option Img} {r : Tb} (hS : Sim tw tp t ap r1 r2 I r) (rd : Int32) : rdV rd (r1 7 1) (r2 7 1) (-1) = rdV rd (r 1 ((1510 * 0) + 17)) (r 1 ((1510 * 1) + 17)) (-1) := by
  obtain ⟨-, ⟨T, eT, hT, e4, eap, s1, s2⟩, -, -⟩ := hS
  exact rdV_congr (ask_wholes s1.g0) (ask_wholes s2.g1)
theorem sim_widest {tw : Int32} {tp : Nat → Int32} {t ap : Int32} {r1 r2 : Tb} {I : Nat → Option Img} {r : Tb} (hS : Sim tw tp t ap r1 r2 I r) (rd : Int32) : rdV rd (widestV r1) (widestV r2) (-1) = rdV rd (widestM r (1510 * 0)) (widestM r (1510 * 1)) (-1) := by
  obtain ⟨-, ⟨T, eT, hT, e4, eap, s1, s2⟩, -, -⟩ := hS
  exact rdV_congr (ask_widest s1.g0) (ask_widest s2.g1)
theorem sim_apart {tw : Int32} {tp : Nat → Int32} {t ap : Int32} {r1 r2 : Tb} {I : Nat → Option Img} {r : Tb} (hS : Sim tw tp t ap r1 r2 I r)  : ap = r 0 5 := by
  obtain ⟨-, ⟨T, eT, hT, e4, eap, s1, s2⟩, -, -⟩ := hS
  exact eap
