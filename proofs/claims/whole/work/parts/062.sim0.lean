/-! ### what class and reference have in common -/
/-- a number that is small beside t -/
def Bnd (x : Int32) (t : Nat) : Prop := -(2 * (t : Int)) ≤ x.toInt ∧ x.toInt ≤ 2 * (t : Int)
/-- a Reader's own numbers -/
def Sc (c : Tb) (g : Nat → Int32) : Prop := c 0 4 = g 0 ∧ c 0 5 = g 1 ∧ c 0 6 = g 2 ∧ c 0 7 = g 6 ∧ c 0 8 = g 7 ∧ c 0 9 = g 8 ∧ c 3 3 = g 9 ∧ c 0 12 = g 10 ∧ c 0 13 = g 11 ∧ c 0 14 = g 12 ∧ c 0 10 = g 13 ∧ c 0 11 = g 14 ∧ c 7 1 = g 17
/-- their ranges: hold, turn, clean; places -/
def Rg (g : Nat → Int32) (t h T C : Nat) : Prop := (1 ≤ h ∧ h ≤ 16 ∧ g 0 = nI h) ∧ (4 ≤ T ∧ T ≤ 64 ∧ g 1 = nI T) ∧ (C < 8 ∧ g 2 = nI C) ∧ (g 13 = 0 ∨ g 13 = 1) ∧ Bnd (g 6) t ∧ Bnd (g 7) t ∧ Bnd (g 8) t ∧ Bnd (g 14) t
/-- the events kept, n in all, none behind t -/
def Lg (c : Tb) (g : Nat → Int32) (t n : Nat) : Prop := g 9 = nI n ∧ ∀ k, k < 300 → k < n → c 4 k = g (20 + k) ∧ c 5 k = g (320 + k) ∧ c 6 k = g (620 + k) ∧ ∃ a : Nat, 1 ≤ a ∧ a ≤ t ∧ g (320 + k) = nI a
/-- the latest zero Z, the events up to it E -/
def Ze (c : Tb) (g : Nat → Int32) (t n Z E : Nat) : Prop := g 16 = nI Z ∧ Z ≤ t ∧ c 7 2 = nI E ∧ E ≤ n ∧ (Z = 0 → E = 0) ∧ ∀ j, j < n → n ≤ j + 300 → (g (320 + j % 300) ≤ nI Z ↔ j < E)
def srt (g : Nat → Int32) (n k : Nat) : Int32 := g (20 + (n - 1 - k) % 300)
def runOf (g : Nat → Int32) (n q : Nat) (so : Int32) : Prop := q ≤ n ∧ (∀ k, k < q → k < 300 → srt g n k = so) ∧ (q < n → q < 300 → srt g n q ≠ so)
/-- the streak -/
def Sk (c : Tb) (g : Nat → Int32) (n : Nat) : Prop := (c 3 4 = 0 ∧ (n = 0 ∨ srt g n 0 = 0)) ∨ ∃ q : Nat, 1 ≤ q ∧ ((c 3 4 = nI q ∧ runOf g n q 1) ∨ (c 3 4 = -nI q ∧ runOf g n q (-1)))
/-- the places of the last ticks -/
def Pa (c : Tb) (g : Nat → Int32) (t S : Nat) : Prop := g 15 = nI S ∧ S ≤ t ∧ c 0 15 = nI (t - S) ∧ ∀ d, d ≤ 500 → d ≤ S → c 2 ((t - d) % 501) = if d = S then 0 else g (920 + (S - d) % 512)
def Te (c : Tb) (g : Nat → Int32) : Prop := ∀ k, k < 64 → c 8 k = g (1440 + k)
def Rn (c : Tb) (g : Nat → Int32) : Prop := ∀ i, i < 3 → c 1 i = g (3 + i)
/-- the ticks of the events don't fall -/
def Mo (g : Nat → Int32) (n : Nat) : Prop := ∀ i j, i < j → j < n → n ≤ i + 300 → g (320 + i % 300) ≤ g (320 + j % 300)
def G (r : Tb) (b : Nat) : Nat → Int32 := fun j => r 1 (b + j)
/-- a Reader of the class and one of the reference's, at tick t -/
def SR (c : Tb) (g : Nat → Int32) (t : Nat) : Prop := ∃ h T C n S Z E : Nat, n ≤ S ∧ Sc c g ∧ Rg g t h T C ∧ Lg c g t n ∧ Ze c g t n Z E ∧ Sk c g n ∧ Pa c g t S ∧ Te c g ∧ Rn c g ∧ Mo g n
/-- a Bench -/
def BR (t : Nat) (ap : Int32) (r1 r2 : Tb) (f : Nat → Int32) (tk apm : Int32) : Prop := t ≤ 1000000 ∧ tk = nI t ∧ ap = apm ∧ SR r1 f t ∧ SR r2 (fun j => f (1510 + j)) t
abbrev Img : Type := Nat × (Nat → Nat) × (Nat → Nat) × Int32 × Int32 × Tb × Tb
def imF (I : Nat → Option Img) : Nat → Option Nat := fun k => (I k).map (fun i => i.1)
def byteN (tp : Nat → Int32) (k : Nat) : Int32 := (((tp (k / 4)).toUInt32 >>> ((8 * (3 - nI (k % 4)) : Int32).toUInt32 &&& Int32.toUInt32 31)).toInt32) &&& 255
/-- class and reference answer alike from here on -/
def Sim (tw : Int32) (tp : Nat → Int32) (t ap : Int32) (r1 r2 : Tb) (I : Nat → Option Img) (r : Tb) : Prop :=
  (∃ w : Nat, w ≤ 500 ∧ tw = nI w ∧ r 0 8 = nI (4 * w) ∧ ∀ k, k < 4 * w → r 5 k = byteN tp k) ∧
  (∃ T : Nat, t = nI T ∧ BR T ap r1 r2 (r 1) (r 0 4) (r 0 5)) ∧
  r 0 6 = imgB (imF I) 4 ∧
  ∀ K, K < 4 → ∀ i : Img, I K = some i → ∃ u : Nat, i.2.2.2.1 = nI u ∧ BR u i.2.2.2.2.1 i.2.2.2.2.2.1 i.2.2.2.2.2.2 (fun j => r 2 (3020 * K + j)) (r 3 K) (r 4 K)
/-! the worlds of the images -/
def benchI (cI : ClassId) (i : Img) : va_W := benchW i.1 i.2.1 i.2.2.1 cI i.2.2.2.1 i.2.2.2.2.1 i.2.2.2.2.2.1 i.2.2.2.2.2.2
def imgW (cI : ClassId) (o : Option Img) : va_W := match o with
  | none => []
  | some i => benchI cI i
def imgsW (cI : ClassId) (I : Nat → Option Img) : va_W := imgW cI (I 0) ++ (imgW cI (I 1) ++ (imgW cI (I 2) ++ imgW cI (I 3)))
def allW (P : Nat → Nat) (b : Nat) (A1 A2 : Nat → Nat) (cI cB : ClassId) (tw : Int32) (I : Nat → Option Img) (tp : Nat → Int32) (t ap : Int32) (r1 r2 : Tb) (A : Nat → Nat) (r : Tb) : va_W := pwW P b A1 A2 cI cB tw (imF I) tp t ap r1 r2 ++ (modelW A cI r ++ imgsW cI I)
theorem imgs_perm {cI : ClassId} {I : Nat → Option Img} {K : Nat} (hK : K < 4) (i : Img) : List.Perm (imgsW cI (va_up I K (some i))) (benchI cI i ++ imgsW cI (va_up I K none)) := by
  have h : K = 0 ∨ K = 1 ∨ K = 2 ∨ K = 3 := by omega
  unfold imgsW
  rcases h with rfl | rfl | rfl | rfl
  · exact List.Perm.refl _
  · exact List.perm_append_comm_assoc (imgW cI (I 0)) (benchI cI i) (imgW cI (I 2) ++ imgW cI (I 3))
  · exact ((List.perm_append_comm_assoc (imgW cI (I 1)) (benchI cI i) (imgW cI (I 3))).append_left (imgW cI (I 0))).trans (List.perm_append_comm_assoc (imgW cI (I 0)) (benchI cI i) (imgW cI (I 1) ++ imgW cI (I 3)))
  · have h1 : List.Perm (imgW cI (I 2) ++ benchI cI i) (benchI cI i ++ imgW cI (I 2)) := List.perm_append_comm
    have h2 := (h1.append_left (imgW cI (I 1))).trans (List.perm_append_comm_assoc (imgW cI (I 1)) (benchI cI i) (imgW cI (I 2)))
    have h3 := (h2.append_left (imgW cI (I 0))).trans (List.perm_append_comm_assoc (imgW cI (I 0)) (benchI cI i) (imgW cI (I 1) ++ imgW cI (I 2)))
    have e : imgW cI (I 2) ++ imgW cI (none : Option Img) = imgW cI (I 2) := List.append_nil _
    show List.Perm _ (benchI cI i ++ (imgW cI (I 0) ++ (imgW cI (I 1) ++ (imgW cI (I 2) ++ imgW cI none))))
    rw [e]
    exact h3
theorem va_up_same {I : Nat → Option Img} {K : Nat} {o : Option Img} (h : I K = o) : va_up I K o = I := by
  funext k
  unfold va_up
  by_cases hk : k = K
  · rw [if_pos hk, hk, h]
  · rw [if_neg hk]
theorem va_up_up {I : Nat → Option Img} {K : Nat} {o o' : Option Img} : va_up (va_up I K o) K o' = va_up I K o' := by
  funext k
  unfold va_up
  by_cases hk : k = K
  · rw [if_pos hk, if_pos hk]
  · rw [if_neg hk, if_neg hk, if_neg hk]
theorem imF_up {I : Nat → Option Img} {K : Nat} (i : Img) : imF (va_up I K (some i)) = va_up (imF I) K (some i.1) := by
  funext k
  unfold imF va_up
  by_cases hk : k = K
  · rw [if_pos hk, if_pos hk]; rfl
  · rw [if_neg hk, if_neg hk]
theorem imF_same {I : Nat → Option Img} {K : Nat} {i i' : Img} (h : I K = some i) (e : i'.1 = i.1) : imF (va_up I K (some i')) = imF I := by
  funext k
  unfold imF va_up
  by_cases hk : k = K
  · rw [if_pos hk, hk, h]; exact congrArg some e
  · rw [if_neg hk]
/-- an image's cells to the front, beside the PulseWheel's -/
theorem img_out {cI : ClassId} {I : Nat → Option Img} {K : Nat} (hK : K < 4) {i : Img} (h : I K = some i) (x y : va_W) : List.Perm (x ++ (y ++ imgsW cI I)) ((x ++ benchI cI i) ++ (y ++ imgsW cI (va_up I K none))) := by
  have h1 := imgs_perm (cI := cI) (I := I) hK i
  rw [va_up_same h] at h1
  have h2 := (h1.append_left y).trans (List.perm_append_comm_assoc y (benchI cI i) (imgsW cI (va_up I K none)))
  rw [List.append_assoc]
  exact h2.append_left x
theorem img_in {cI : ClassId} {I : Nat → Option Img} {K : Nat} (hK : K < 4) (i : Img) (x y : va_W) : List.Perm ((x ++ benchI cI i) ++ (y ++ imgsW cI (va_up I K none))) (x ++ (y ++ imgsW cI (va_up I K (some i)))) := by
  have h1 := (imgs_perm (cI := cI) (I := I) hK i).symm
  have h2 := (List.perm_append_comm_assoc (benchI cI i) y (imgsW cI (va_up I K none))).trans (h1.append_left y)
  rw [List.append_assoc]
  exact h2.append_left x
