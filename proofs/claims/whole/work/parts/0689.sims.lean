/-! ### class and reference, call by call -/
theorem sim_side {tw : Int32} {tp : Nat → Int32} {t ap : Int32} {r1 r2 : Tb} {I : Nat → Option Img} {r : Tb} (hS : Sim tw tp t ap r1 r2 I r)  : (¬ r1 0 5 = 0 ∧ ¬ r2 0 5 = 0) ∧ (¬ tw < 0 ∧ tw ≤ 500) ∧ ((r1 0 10 = 0 ∨ r1 0 10 = 1) ∧ (r2 0 10 = 0 ∨ r2 0 10 = 1)) ∧ (okM r (1510 * 0) ∧ okM r (1510 * 1)) ∧ ∃ T m2 : Nat, r 0 4 = nI T ∧ T ≤ 1000000 ∧ okB r 0 T ∧ okB r 1510 T ∧ r 0 8 = nI m2 ∧ m2 ≤ 2000 := by
  obtain ⟨⟨w, hw, etw, e8, htape⟩, ⟨T, et, hT, e4, eap, s1, s2⟩, e6, himg⟩ := id hS
  have hS1 := side_c s1
  have hS2 := side_c s2
  refine ⟨⟨hS1.1, hS2.1⟩, ⟨by rw [etw]; exact nI_pos (by omega), by rw [etw]; exact (nI_leI (b := 500) (by omega) (by decide)).mpr hw⟩, ⟨hS1.2, hS2.2⟩, ⟨side_M hT s1.g0, side_M hT s2.g1⟩, T, 4 * w, e4, hT, side_B hT s1.g00, side_B hT s2, e8, by omega⟩
theorem sim_img {tw : Int32} {tp : Nat → Int32} {t ap : Int32} {r1 r2 : Tb} {I : Nat → Option Img} {r : Tb} (hS : Sim tw tp t ap r1 r2 I r) (K : Nat) (hK : K < 4) (i : Img) (hi : I K = some i) : (i.2.2.2.2.2.1 0 10 = 0 ∨ i.2.2.2.2.2.1 0 10 = 1) ∧ (i.2.2.2.2.2.2 0 10 = 0 ∨ i.2.2.2.2.2.2 0 10 = 1) := by
  obtain ⟨⟨w, hw, etw, e8, htape⟩, ⟨T, et, hT, e4, eap, s1, s2⟩, e6, himg⟩ := id hS
  obtain ⟨u, hu, _, _, _, t1, t2⟩ := himg K hK i hi
  exact ⟨(side_c t1).2, (side_c t2).2⟩
theorem sim_hold {tw : Int32} {tp : Nat → Int32} {t ap : Int32} {r1 r2 : Tb} {I : Nat → Option Img} {r : Tb} (hS : Sim tw tp t ap r1 r2 I r) (rd tk : Int32) : Sim tw tp t ap (rdV rd (holdR r1 tk t) r1 r1) (rdV rd r2 (holdR r2 tk t) r2) I (rdV rd (holdM r (1510 * 0) tk) (holdM r (1510 * 1) tk) r) := by
  by_cases c0 : rd = 0
  · subst c0
    exact told_1 hS (fun T hT et h => by subst et; exact hold_told hT h tk)
  · by_cases c1 : rd = 1
    · subst c1
      exact told_2 hS (fun T hT et h => by subst et; exact hold_told hT h tk)
    · rw [rdV_n c0 c1, rdV_n c0 c1, rdV_n c0 c1]; exact hS
theorem sim_turn {tw : Int32} {tp : Nat → Int32} {t ap : Int32} {r1 r2 : Tb} {I : Nat → Option Img} {r : Tb} (hS : Sim tw tp t ap r1 r2 I r) (rd tk : Int32) : Sim tw tp t ap (rdV rd (turnR r1 tk t) r1 r1) (rdV rd r2 (turnR r2 tk t) r2) I (rdV rd (turnM r (1510 * 0) tk) (turnM r (1510 * 1) tk) r) := by
  by_cases c0 : rd = 0
  · subst c0
    exact told_1 hS (fun T hT et h => by subst et; exact turn_told hT h tk)
  · by_cases c1 : rd = 1
    · subst c1
      exact told_2 hS (fun T hT et h => by subst et; exact turn_told hT h tk)
    · rw [rdV_n c0 c1, rdV_n c0 c1, rdV_n c0 c1]; exact hS
theorem sim_tick {tw : Int32} {tp : Nat → Int32} {t ap : Int32} {r1 r2 : Tb} {I : Nat → Option Img} {r : Tb} (hS : Sim tw tp t ap r1 r2 I r) (n f g : Int32) : tickV n f g t = tickMV r n f g ∧ Sim tw tp (tickB n f g (t, ap, r1, r2)).1 (tickB n f g (t, ap, r1, r2)).2.1 (tickB n f g (t, ap, r1, r2)).2.2.1 (tickB n f g (t, ap, r1, r2)).2.2.2 I (tickM r n f g) := by
  obtain ⟨T, hB⟩ := hS.bx
  obtain ⟨h1, ⟨T', hB'⟩, h3⟩ := tick_core hB n f g
  exact ⟨h1, hS.step h3.1 h3.2 hB'⟩
theorem sim_feed {tw : Int32} {tp : Nat → Int32} {t ap : Int32} {r1 r2 : Tb} {I : Nat → Option Img} {r : Tb} (hS : Sim tw tp t ap r1 r2 I r) (a1 a2 a3 a4 a5 : Int32) (m2 : Nat) (hm : r 0 8 = nI m2) (hm2 : m2 ≤ 2000) : (if tw ≤ 500 - 5 then feedW tw * 4 else -1) = feedMV r m2 ∧ Sim (feedW tw) (feedT tw tp a1 a2 a3 a4 a5) t ap r1 r2 I (feedM r m2 a1 a2 a3 a4 a5) := by
  obtain ⟨⟨w, hw, etw, e8, htape⟩, ⟨T, et, hT, e4, eap, s1, s2⟩, e6, himg⟩ := id hS
  have em : m2 = 4 * w := (nI_eq (by omega) (by omega)).mp (hm.symm.trans e8)
  subst em
  subst etw
  obtain ⟨h1, ⟨w', hw', ew', ht'⟩, h3⟩ := feed_core hw ⟨e8, htape⟩ a1 a2 a3 a4 a5
  refine ⟨h1, ⟨w', hw', ew', ht'.1, ht'.2⟩, ⟨T, et, hT, ?_, ?_, ?_, ?_⟩, ?_, ?_⟩
  · rw [h3.2 4 (by decide)]; exact e4
  · rw [h3.2 5 (by decide)]; exact eap
  · rw [h3.1 1 (by decide) (by decide)]; exact s1
  · rw [h3.1 1 (by decide) (by decide)]; exact s2
  · rw [h3.2 6 (by decide)]; exact e6
  · rw [h3.1 2 (by decide) (by decide), h3.1 3 (by decide) (by decide), h3.1 4 (by decide) (by decide)]; exact himg
theorem sim_play {tw : Int32} {tp : Nat → Int32} {t ap : Int32} {r1 r2 : Tb} {I : Nat → Option Img} {r : Tb} (hS : Sim tw tp t ap r1 r2 I r) (n : Int32) : playV tw tp n (t, ap, r1, r2) = playMV r n ∧ Sim (playW tw n) tp (playB tw tp n (t, ap, r1, r2)).1 (playB tw tp n (t, ap, r1, r2)).2.1 (playB tw tp n (t, ap, r1, r2)).2.2.1 (playB tw tp n (t, ap, r1, r2)).2.2.2 I (playMR r n) := by
  obtain ⟨⟨w, hw, etw, e8, htape⟩, ⟨T, et, hT, e4, eap, s1, s2⟩, e6, himg⟩ := id hS
  have hbx : BX T (t, ap, r1, r2) r := ⟨et, hT, e4, eap, s1, s2⟩
  subst etw
  have c4 : nI w * 4 = nI (4 * w) := by rw [show (4 : Int32) = nI 4 from rfl, pk_mul, Nat.mul_comm]
  by_cases h1 : n < 0
  · have a1 : playV (nI w) tp n (t, ap, r1, r2) = -1 := by unfold playV; rw [if_pos h1]
    have a2 : playMV r n = -1 := by unfold playMV; rw [if_pos h1]
    have a3 : playB (nI w) tp n (t, ap, r1, r2) = (t, ap, r1, r2) := by unfold playB; rw [if_pos h1]
    have a4 : playMR r n = r := by unfold playMR; rw [if_pos h1]
    have a5 : playW (nI w) n = nI w := by unfold playW; rw [if_pos h1]
    rw [a1, a2, a3, a4, a5]
    exact ⟨rfl, hS⟩
  · obtain ⟨N, hN, rfl⟩ := nI_of h1
    by_cases h2 : N ≤ 4 * w
    · have d1 : nI N ≤ nI w * 4 := by rw [c4]; exact (nI_leI hN (by omega)).mpr h2
      have d2 : nI N ≤ r 0 8 := by rw [e8]; exact (nI_leI hN (by omega)).mpr h2
      have hb0 : BX T (t, ap, r1, r2) (up2 r 0 8 0) := ⟨et, hT, e4, eap, s1, s2⟩
      obtain ⟨k1, ⟨T', k2⟩, k3⟩ := play_core hw h2 (N + 1) 0 (t, ap, r1, r2) (up2 r 0 8 0) T (by omega) (by omega) htape hb0
      have a1 : playV (nI w) tp (nI N) (t, ap, r1, r2) = nI (playF (nI w) tp (nI N) (N + 1) 0 (t, ap, r1, r2)).1 := by unfold playV; rw [if_neg h1, if_pos d1, nI_clamp hN]
      have a2 : playMV r (nI N) = nI (playG (nI N) (N + 1) 0 (up2 r 0 8 0)).1 := by unfold playMV; rw [if_neg h1, if_pos d2, nI_clamp hN]
      have a3 : playB (nI w) tp (nI N) (t, ap, r1, r2) = (playF (nI w) tp (nI N) (N + 1) 0 (t, ap, r1, r2)).2 := by unfold playB; rw [if_neg h1, if_pos d1, nI_clamp hN]
      have a4 : playMR r (nI N) = (playG (nI N) (N + 1) 0 (up2 r 0 8 0)).2 := by unfold playMR; rw [if_neg h1, if_pos d2, nI_clamp hN]
      have a5 : playW (nI w) (nI N) = 0 := by unfold playW; rw [if_neg h1, if_pos d1]
      rw [a1, a2, a3, a4, a5, k1]
      have hS0 : Sim 0 tp t ap r1 r2 I (up2 r 0 8 0) := ⟨⟨0, by omega, rfl, rfl, fun k hk => by omega⟩, ⟨T, et, hT, e4, eap, s1, s2⟩, e6, himg⟩
      exact ⟨rfl, hS0.step k3.1 k3.2 k2⟩
    · have d1 : ¬ nI N ≤ nI w * 4 := by rw [c4]; exact fun q => h2 ((nI_leI hN (by omega)).mp q)
      have d2 : ¬ nI N ≤ r 0 8 := by rw [e8]; exact fun q => h2 ((nI_leI hN (by omega)).mp q)
      have a1 : playV (nI w) tp (nI N) (t, ap, r1, r2) = -1 := by unfold playV; rw [if_neg h1, if_neg d1]
      have a2 : playMV r (nI N) = -1 := by unfold playMV; rw [if_neg h1, if_neg d2]
      have a3 : playB (nI w) tp (nI N) (t, ap, r1, r2) = (t, ap, r1, r2) := by unfold playB; rw [if_neg h1, if_neg d1]
      have a4 : playMR r (nI N) = r := by unfold playMR; rw [if_neg h1, if_neg d2]
      have a5 : playW (nI w) (nI N) = nI w := by unfold playW; rw [if_neg h1, if_neg d1]
      rw [a1, a2, a3, a4, a5]
      exact ⟨rfl, hS⟩
theorem sim_period {tw : Int32} {tp : Nat → Int32} {t ap : Int32} {r1 r2 : Tb} {I : Nat → Option Img} {r : Tb} (hS : Sim tw tp t ap r1 r2 I r) (rd mm pt : Int32) : rdV rd (periodV r1 t mm pt) (periodV r2 t mm pt) (-1) = rdV rd (periodM r (1510 * 0) mm pt) (periodM r (1510 * 1) mm pt) (-1) := by
  obtain ⟨-, ⟨T, eT, hT, e4, eap, s1, s2⟩, -, -⟩ := hS
  subst eT
  exact rdV_congr (ask_period hT e4 s1.g0 mm pt) (ask_period hT e4 s2.g1 mm pt)
theorem sim_keep {tw : Int32} {tp : Nat → Int32} {t ap : Int32} {r1 r2 : Tb} {I : Nat → Option Img} {r : Tb} (hS : Sim tw tp t ap r1 r2 I r) (k : Int32) (hk0 : ¬ k < 0) (hk4 : k < 4) (bq : Nat) (B1 B2 : Nat → Nat) (q1 q2 : Tb) : keepMV k = 1 ∧ Sim tw tp t ap r1 r2 (va_up I k.toNatClampNeg (some (bq, B1, B2, t, ap, copyR q1 r1, copyR q2 r2))) (keepMR r k) := by
  obtain ⟨e1, e2⟩ := k4_ok hk0 hk4
  refine ⟨by unfold keepMV; rw [if_neg hk0, if_pos hk4], ?_⟩
  have h := keep_sim hS e2 bq B1 B2 q1 q2
  rw [← e1] at h
  unfold keepMR
  rw [if_neg hk0, if_pos hk4]
  exact h
theorem sim_back {tw : Int32} {tp : Nat → Int32} {t ap : Int32} {r1 r2 : Tb} {I : Nat → Option Img} {r : Tb} (hS : Sim tw tp t ap r1 r2 I r) (k : Int32) (hk0 : ¬ k < 0) (hk4 : k < 4) (i : Img) (hi : I k.toNatClampNeg = some i) : backMV r k = 1 ∧ Sim tw tp i.2.2.2.1 i.2.2.2.2.1 (copyR r1 i.2.2.2.2.2.1) (copyR r2 i.2.2.2.2.2.2) I (backMR r k) := by
  obtain ⟨⟨w, hw, etw, e8, htape⟩, ⟨T, et, hT, e4, eap, s1, s2⟩, e6, himg⟩ := id hS
  obtain ⟨k1, k2⟩ := k4_ok hk0 hk4
  have hk4' : ¬ 4 ≤ k := Int32.not_le.mpr hk4
  have hb : ¬ r 0 6 >>> (k &&& 31) &&& 1 = 0 := by
    rw [e6, k1]
    intro q
    have := (img_get k2).mp q
    unfold imF at this
    rw [hi] at this
    cases this
  refine ⟨by unfold backMV; rw [if_neg hk0, if_neg hk4', if_neg hb], ?_⟩
  unfold backMR
  rw [if_neg hk0, if_neg hk4', if_neg hb]
  exact back_sim hS k2 i hi
theorem sim_back0 {tw : Int32} {tp : Nat → Int32} {t ap : Int32} {r1 r2 : Tb} {I : Nat → Option Img} {r : Tb} (hS : Sim tw tp t ap r1 r2 I r) (k : Int32) (hk0 : ¬ k < 0) (hk4 : k < 4) (hi : I k.toNatClampNeg = none) : backMV r k = 0 ∧ backMR r k = r := by
  obtain ⟨⟨w, hw, etw, e8, htape⟩, ⟨T, et, hT, e4, eap, s1, s2⟩, e6, himg⟩ := id hS
  obtain ⟨k1, k2⟩ := k4_ok hk0 hk4
  have hk4' : ¬ 4 ≤ k := Int32.not_le.mpr hk4
  have hb : r 0 6 >>> (k &&& 31) &&& 1 = 0 := by
    rw [e6, k1]
    refine (img_get k2).mpr ?_
    unfold imF
    rw [hi]
    rfl
  exact ⟨by unfold backMV; rw [if_neg hk0, if_neg hk4', if_pos hb], by unfold backMR; rw [if_neg hk0, if_neg hk4', if_pos hb]⟩
theorem sim_about {tw : Int32} {tp : Nat → Int32} {t ap : Int32} {r1 r2 : Tb} {I : Nat → Option Img} {r : Tb} (hS : Sim tw tp t ap r1 r2 I r) (w : Int32) : aboutV t tw (imF I) w = aboutM r w := by
  obtain ⟨⟨w, hw, etw, e8, htape⟩, ⟨T, et, hT, e4, eap, s1, s2⟩, e6, himg⟩ := id hS
  have c4 : nI w * 4 = nI (4 * w) := by rw [show (4 : Int32) = nI 4 from rfl, pk_mul, Nat.mul_comm]
  unfold aboutV aboutM
  rw [e4, e8, e6, et, etw, c4]
theorem sim_start : Sim 0 (fun _ => 0) 0 (-1) newT newT (fun _ => none) newM := by
  refine ⟨⟨0, by omega, rfl, rfl, fun k hk => by omega⟩, ⟨0, rfl, by omega, rfl, rfl, ?_, ?_⟩, by decide +kernel, fun K hK i hi => by cases hi⟩
  · refine start_1 _ rfl rfl (fun j h1 h2 => ?_)
    show upd (upd (upd (upd (fun _ => 0) 0 1) 1 16) 1510 1) 1511 16 j = 0
    rw [pk_un (by omega), pk_un (by omega), pk_un (by omega), pk_un (by omega)]
  · refine start_1 _ rfl rfl (fun j h1 h2 => ?_)
    show upd (upd (upd (upd (fun _ => 0) 0 1) 1 16) 1510 1) 1511 16 (1510 + j) = 0
    rw [pk_un (by omega), pk_un (by omega), pk_un (by omega), pk_un (by omega)]
