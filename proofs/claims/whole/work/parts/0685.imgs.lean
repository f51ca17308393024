/-! ### the images -/
def imgX (b0 b1 b2 b3 : Bool) : Int32 :=
  let y0 : Int32 := if b0 then 0 ||| bitV 0 else 0
  let y1 : Int32 := if b1 then y0 ||| bitV 1 else y0
  let y2 : Int32 := if b2 then y1 ||| bitV 2 else y1
  if b3 then y2 ||| bitV 3 else y2
theorem imgB_x (im : Nat → Option Nat) : imgB im 4 = imgX (im 0).isSome (im 1).isSome (im 2).isSome (im 3).isSome := by
  rw [imgB_s, imgB_s, imgB_s, imgB_s]
  cases im 0 <;> cases im 1 <;> cases im 2 <;> cases im 3 <;> rfl
theorem imgX_set : ∀ b0 b1 b2 b3 : Bool, imgX true b1 b2 b3 = imgX b0 b1 b2 b3 ||| bitV 0 ∧ imgX b0 true b2 b3 = imgX b0 b1 b2 b3 ||| bitV 1 ∧ imgX b0 b1 true b3 = imgX b0 b1 b2 b3 ||| bitV 2 ∧ imgX b0 b1 b2 true = imgX b0 b1 b2 b3 ||| bitV 3 := by decide +kernel
theorem imgX_get : ∀ b0 b1 b2 b3 : Bool, decide (imgX b0 b1 b2 b3 >>> (nI 0 &&& 31) &&& 1 = 0) = !b0 ∧ decide (imgX b0 b1 b2 b3 >>> (nI 1 &&& 31) &&& 1 = 0) = !b1 ∧ decide (imgX b0 b1 b2 b3 >>> (nI 2 &&& 31) &&& 1 = 0) = !b2 ∧ decide (imgX b0 b1 b2 b3 >>> (nI 3 &&& 31) &&& 1 = 0) = !b3 := by decide +kernel
theorem img_set {im : Nat → Option Nat} {K b : Nat} (hK : K < 4) : imgB (va_up im K (some b)) 4 = imgB im 4 ||| bitV K := by
  rw [imgB_x, imgB_x]
  obtain ⟨h0, h1, h2, h3⟩ := imgX_set (im 0).isSome (im 1).isSome (im 2).isSome (im 3).isSome
  have h : K = 0 ∨ K = 1 ∨ K = 2 ∨ K = 3 := by omega
  rcases h with rfl | rfl | rfl | rfl
  · exact h0
  · exact h1
  · exact h2
  · exact h3
theorem img_get {im : Nat → Option Nat} {K : Nat} (hK : K < 4) : imgB im 4 >>> (nI K &&& 31) &&& 1 = 0 ↔ im K = none := by
  rw [imgB_x]
  obtain ⟨h0, h1, h2, h3⟩ := imgX_get (im 0).isSome (im 1).isSome (im 2).isSome (im 3).isSome
  have key : ∀ (x : Int32) (o : Option Nat), decide (x = 0) = !o.isSome → (x = 0 ↔ o = none) := by
    intro x o e
    cases o with
    | none => exact ⟨fun _ => rfl, fun _ => of_decide_eq_true e⟩
    | some a => exact ⟨fun q => (by rw [decide_eq_true q] at e; cases e), fun q => (by cases q)⟩
  have h : K = 0 ∨ K = 1 ∨ K = 2 ∨ K = 3 := by omega
  rcases h with rfl | rfl | rfl | rfl
  · exact key _ _ h0
  · exact key _ _ h1
  · exact key _ _ h2
  · exact key _ _ h3
theorem copyR_sim {q c : Tb} {g : Nat → Int32} {t : Nat} (h : SR c g t) : SR (copyR q c) g t := by
  refine SR.congr (c := c) (c' := copyR q c) (g := g) (g' := g) (fun _ _ => rfl) (fun k h1 h2 => ?_) (fun k hk => ?_) (fun k hk => ?_) ⟨rfl, rfl⟩ (fun k hk => ⟨?_, ?_, ?_⟩) ⟨rfl, rfl⟩ (fun k hk => ?_) h
  · have e : k = 4 ∨ k = 5 ∨ k = 6 ∨ k = 7 ∨ k = 8 ∨ k = 9 ∨ k = 10 ∨ k = 11 ∨ k = 12 ∨ k = 13 ∨ k = 14 ∨ k = 15 := by omega
    rcases e with rfl | rfl | rfl | rfl | rfl | rfl | rfl | rfl | rfl | rfl | rfl | rfl <;> rfl
  · show va_cpy (c 1) (q 1) 0 0 3 k = c 1 k
    rw [pk_cpy_in (by omega) (by omega)]
    congr 1
    omega
  · show va_cpy (c 2) (q 2) 0 0 501 k = c 2 k
    rw [pk_cpy_in (by omega) (by omega)]
    congr 1
    omega
  · show va_cpy (c 4) (q 4) 0 0 300 k = c 4 k
    rw [pk_cpy_in (by omega) (by omega)]
    congr 1
    omega
  · show va_cpy (c 5) (q 5) 0 0 300 k = c 5 k
    rw [pk_cpy_in (by omega) (by omega)]
    congr 1
    omega
  · show va_cpy (c 6) (q 6) 0 0 300 k = c 6 k
    rw [pk_cpy_in (by omega) (by omega)]
    congr 1
    omega
  · show va_cpy (c 8) (q 8) 0 0 64 k = c 8 k
    rw [pk_cpy_in (by omega) (by omega)]
    congr 1
    omega
theorem BR.copy {t : Nat} {ap : Int32} {r1 r2 q1 q2 : Tb} {f f' : Nat → Int32} {tk apm : Int32} (hf : ∀ j, j < 3020 → f' j = f j) (h : BR t ap r1 r2 f tk apm) : BR t ap (copyR q1 r1) (copyR q2 r2) f' tk apm := by
  obtain ⟨h1, h2, h3, s1, s2⟩ := h.fcongr hf
  exact ⟨h1, h2, h3, copyR_sim s1, copyR_sim s2⟩
section
variable {tw : Int32} {tp : Nat → Int32} {t ap : Int32} {r1 r2 : Tb} {I : Nat → Option Img} {r : Tb}
theorem keep_sim (hS : Sim tw tp t ap r1 r2 I r) {K : Nat} (hK : K < 4) (bq : Nat) (B1 B2 : Nat → Nat) (q1 q2 : Tb) : Sim tw tp t ap r1 r2 (va_up I K (some (bq, B1, B2, t, ap, copyR q1 r1, copyR q2 r2))) (keepM r K (nI K)) := by
  obtain ⟨⟨w, hw, etw, e8, htape⟩, ⟨T, et, hB⟩, e6, himg⟩ := hS
  refine ⟨⟨w, hw, etw, e8, htape⟩, ⟨T, et, hB⟩, ?_, fun K' hK' i hi => ?_⟩
  · rw [imF_up, img_set hK, ← e6]
    rfl
  · have row2 : ∀ j, keepM r K (nI K) 2 j = cpN r (3020 * K) 3020 j := fun j => rfl
    by_cases hk : K' = K
    · subst hk
      rw [va_up_self] at hi
      cases hi
      refine ⟨T, et, ?_⟩
      have e3 : keepM r K' (nI K') 3 K' = r 0 4 := by
        show up2 (up1 r 2 (cpN r (3020 * K') 3020)) 3 K' (r 0 4) 3 K' = _
        exact up2_eq
      have e4 : keepM r K' (nI K') 4 K' = r 0 5 := by
        show up2 (up2 (up1 r 2 (cpN r (3020 * K') 3020)) 3 K' (r 0 4)) 4 K' (r 0 5) 4 K' = _
        exact up2_eq
      rw [e3, e4]
      refine hB.copy (fun j hj => ?_)
      rw [row2]
      unfold cpN
      rw [if_pos (by omega)]
      congr 1
      omega
    · rw [va_up_ne _ _ hk] at hi
      obtain ⟨u, hu, hBu⟩ := himg K' hK' i hi
      refine ⟨u, hu, ?_⟩
      have e3 : keepM r K (nI K) 3 K' = r 3 K' := by
        show up2 (up1 r 2 (cpN r (3020 * K) 3020)) 3 K (r 0 4) 3 K' = _
        rw [up2_ne hk]
        rfl
      have e4 : keepM r K (nI K) 4 K' = r 4 K' := by
        show up2 (up2 (up1 r 2 (cpN r (3020 * K) 3020)) 3 K (r 0 4)) 4 K (r 0 5) 4 K' = _
        rw [up2_ne hk]
        rfl
      rw [e3, e4]
      refine hBu.fcongr (fun j hj => ?_)
      rw [row2]
      unfold cpN
      rw [if_neg (by omega)]
theorem back_sim (hS : Sim tw tp t ap r1 r2 I r) {K : Nat} (hK : K < 4) (i : Img) (hi : I K = some i) : Sim tw tp i.2.2.2.1 i.2.2.2.2.1 (copyR r1 i.2.2.2.2.2.1) (copyR r2 i.2.2.2.2.2.2) I (backM r K) := by
  obtain ⟨⟨w, hw, etw, e8, htape⟩, _, e6, himg⟩ := hS
  obtain ⟨u, hu, hB⟩ := himg K hK i hi
  refine ⟨⟨w, hw, etw, e8, htape⟩, ⟨u, hu, ?_⟩, e6, himg⟩
  have e4 : backM r K 0 4 = r 3 K := rfl
  have e5 : backM r K 0 5 = r 4 K := rfl
  rw [e4, e5]
  refine hB.copy (fun j hj => ?_)
  show bkN r (3020 * K) 3020 j = _
  unfold bkN
  rw [if_pos hj]
end
/-! ### what the walks ask of a state; the start -/
theorem SR.g00 {c : Tb} {r : Tb} {t : Nat} (h : SR c (r 1) t) : SR c (G r 0) t := by
  have e : G r 0 = r 1 := by funext j; show r 1 (0 + j) = r 1 j; rw [Nat.zero_add]
  rw [e]; exact h
theorem side_M {c r : Tb} {b t : Nat} (ht : t ≤ 1000000) (h : SR c (G r b) t) : okM r b := by
  obtain ⟨ho, T, C, n, S, Z, E, hnS, hSc, hRg, hLg, hZe, hSk, hPa, hTe, hRn, hMo⟩ := h
  obtain ⟨_, ⟨hT4, hT, eT⟩, _⟩ := hRg
  exact ⟨⟨T, hT4, hT, eT⟩, ⟨S, by have := hPa.2.1; omega, hPa.1⟩, ⟨n, by have := hPa.2.1; omega, hLg.1⟩⟩
theorem side_B {c r : Tb} {b t : Nat} (ht : t ≤ 1000000) (h : SR c (G r b) t) : okB r b t := by
  obtain ⟨ho, T, C, n, S, Z, E, hnS, hSc, hRg, hLg, hZe, hSk, hPa, hTe, hRn, hMo⟩ := h
  obtain ⟨_, ⟨hT4, hT, eT⟩, _⟩ := hRg
  have hS := hPa.2.1
  have en : r 1 (b + 9) = nI n := hLg.1
  have eT : r 1 (b + 1) = nI T := eT
  have eS : r 1 (b + 15) = nI S := hPa.1
  have hnO : nOf r b = n := by unfold nOf; rw [en, nI_clamp (by omega)]
  have hTO : tOf r b = T := by unfold tOf; rw [eT, nI_clamp (by omega)]
  have hSO : sOf r b = S := by unfold sOf; rw [eS, nI_clamp (by omega)]
  unfold okB
  rw [hnO, hTO, hSO]
  exact ⟨en, hnS, eT, hT4, hT, eS, hS⟩
theorem side_c {c : Tb} {g : Nat → Int32} {t : Nat} (h : SR c g t) : ¬ c 0 5 = 0 ∧ (c 0 10 = 0 ∨ c 0 10 = 1) := by
  obtain ⟨ho, T, C, n, S, Z, E, hnS, hSc, hRg, _⟩ := h
  obtain ⟨_, ⟨hT4, hT, eT⟩, _, hh, _⟩ := hRg
  refine ⟨by rw [hSc.2.1, eT]; exact nI_ne0 (by omega) (by omega), ?_⟩
  rw [hSc.2.2.2.2.2.2.2.2.2.2.1]
  exact hh
theorem start_1 (f : Nat → Int32) (h0 : f 0 = 1) (h1 : f 1 = 16) (hj : ∀ j, 2 ≤ j → j < 1510 → f j = 0) : SR newT f 0 := by
  have h := anew_sim (x := newT) (r := newM) (b := 0) (t := 0) (ho := 1) (T := 16) (by decide) (by decide) (by decide) (by decide) (by decide) rfl rfl
  refine SR.congr (c := anewV newT (nI 0)) (c' := newT) (g := G (anewM newM 0 (nI 1) (nI 16)) 0) (g' := f) (fun j hj2 => ?_) (fun k k1 k2 => ?_) (fun k hk => ?_) (fun k hk => ?_) ⟨rfl, rfl⟩ (fun k hk => ⟨rfl, rfl, rfl⟩) ⟨rfl, rfl⟩ (fun k hk => ?_) h
  · show f j = up2 (up2 (up1 newM 1 (clearN newM 0 1510)) 1 0 (nI 1)) 1 (0 + 1) (nI 16) 1 (0 + j)
    rcases (show j = 0 ∨ j = 1 ∨ 2 ≤ j by omega) with rfl | rfl | q
    · rw [h0, up2_ne (by omega), up2_eq]; rfl
    · rw [h1, up2_eq]; rfl
    · rw [hj j q hj2, up2_ne (by omega), up2_ne (by omega), up1_eq]
      unfold clearN
      rw [if_pos (by omega)]
  · have e : k = 4 ∨ k = 5 ∨ k = 6 ∨ k = 7 ∨ k = 8 ∨ k = 9 ∨ k = 10 ∨ k = 11 ∨ k = 12 ∨ k = 13 ∨ k = 14 ∨ k = 15 := by omega
    rcases e with rfl | rfl | rfl | rfl | rfl | rfl | rfl | rfl | rfl | rfl | rfl | rfl <;> rfl
  · show (0 : Int32) = fillV 3 0 (newT 1) k
    unfold fillV
    rw [if_pos hk]
  · show (0 : Int32) = upd (newT 2) (pathN (nI 0)) 0 k
    unfold upd
    split <;> rfl
  · show (0 : Int32) = fillV 64 0 (newT 8) k
    unfold fillV
    rw [if_pos hk]
