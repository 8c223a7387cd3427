section M32
variable {G : Gl} {d : Nat} {T : Sh} {I : Mi} {N : Nat → Int} {Q : Option AV → Sh → Mi → Prop}
def sA (B : Nat → Int) (tp a : Nat) : Nat := skS B tp (tp - a) a
def wA (B : Nat → Int) (tp a : Nat) : Int := wdF (bA B tp) (sA B tp a) 9 0
def eA (B : Nat → Int) (tp a : Nat) : Nat := skB (bA B tp) 97 122 (tp - sA B tp a) (sA B tp a)
def tA (B : Nat → Int) (tp a : Nat) : Nat := sA B tp (eA B tp a)
def zA (B : Nat → Int) (tp a : Nat) : Nat := skB (bA B tp) 48 57 (tp - tA B tp a) (tA B tp a)
def xA (B : Nat → Int) (tp a : Nat) : Int := dvF (bA B tp) (tp - tA B tp a) (tA B tp a) 0
/-- a line's fault; 0: none -/
def lnF (B : Nat → Int) (tp : Nat) (lo hi X : Nat → Int) (a : Nat) : Int :=
  if wA B tp a < 0 then 8 * (sA B tp a : Int) + 1
  else if ¬ X (wA B tp a).toNat = 0 then 8 * (sA B tp a : Int) + 3
  else if ¬ (48 ≤ bA B tp (tA B tp a) ∧ bA B tp (tA B tp a) ≤ 57) then 8 * (tA B tp a : Int) + 1
  else if ¬ (lo (wA B tp a).toNat ≤ xA B tp a ∧ xA B tp a ≤ hi (wA B tp a).toNat) then 8 * (tA B tp a : Int) + 2
  else 0
theorem sA_le {B : Nat → Int} {tp a : Nat} (h : a ≤ tp) : sA B tp a ≤ tp := skS_le B tp (tp - a) a h
theorem eA_le {B : Nat → Int} {tp a : Nat} (h : a ≤ tp) : eA B tp a ≤ tp := skB_le (by decide) _ _ (sA_le h)
theorem tA_le {B : Nat → Int} {tp a : Nat} (h : a ≤ tp) : tA B tp a ≤ tp := sA_le (eA_le h)
theorem zA_le {B : Nat → Int} {tp a : Nat} (h : a ≤ tp) : zA B tp a ≤ tp := skB_le (by decide) _ _ (tA_le h)
theorem skS_ge (B : Nat → Int) (tp : Nat) : ∀ u a, a ≤ skS B tp u a := by
  intro u
  induction u with
  | zero => intro a; exact Nat.le_refl a
  | succ u ih =>
    intro a
    rw [skS_succ]
    split
    · have := ih (a + 1); omega
    · exact Nat.le_refl a
theorem skB_ge (f : Nat → Int) (lo hi : Int) : ∀ u a, a ≤ skB f lo hi u a := by
  intro u
  induction u with
  | zero => intro a; exact Nat.le_refl a
  | succ u ih =>
    intro a
    rw [skB_succ]
    split
    · have := ih (a + 1); omega
    · exact Nat.le_refl a
theorem sA_ge (B : Nat → Int) (tp a : Nat) : a ≤ sA B tp a := skS_ge B tp _ a
theorem zA_ge (B : Nat → Int) (tp a : Nat) : a ≤ zA B tp a := by
  have h1 := sA_ge B tp a
  have h2 : sA B tp a ≤ eA B tp a := skB_ge _ _ _ _ _
  have h3 : eA B tp a ≤ tA B tp a := sA_ge B tp _
  have h4 : tA B tp a ≤ zA B tp a := skB_ge _ _ _ _ _
  omega
theorem sA_id {B : Nat → Int} {tp a : Nat} (h : ¬ bA B tp a = 32) : sA B tp a = a := by
  unfold sA
  cases g : tp - a with
  | zero => rfl
  | succ u => rw [skS_succ, if_neg h]
theorem skS_32 (B : Nat → Int) (tp : Nat) : ∀ u a, tp ≤ a + u → ¬ bA B tp (skS B tp u a) = 32 := by
  intro u
  induction u with
  | zero => intro a h e; exact absurd (bA_lt e) (by rw [show skS B tp 0 a = a from rfl]; omega)
  | succ u ih =>
    intro a h
    rw [skS_succ]
    split
    · exact ih (a + 1) (by omega)
    · assumption
theorem sA_32 (B : Nat → Int) (tp a : Nat) : ¬ bA B tp (sA B tp a) = 32 := skS_32 B tp _ a (by omega)
def plF (B : Nat → Int) (tp : Nat) (lo hi : Nat → Int) : Nat → Nat → (Nat → Int) → (Nat → Int) → Nat → Int × (Nat → Int)
  | 0, _, R, _, _ => (-3, R)
  | u + 1, a, R, X, c =>
    if ¬ lnF B tp lo hi X a = 0 then (-2 - lnF B tp lo hi X a, R)
    else if bA B tp (sA B tp (zA B tp a)) = 59 then plF B tp lo hi u (sA B tp (zA B tp a) + 1) (un R (wA B tp a).toNat (xA B tp a)) (un X (wA B tp a).toNat (ibw true 1)) (c + 1)
    else if bA B tp (sA B tp (zA B tp a)) = -1 then (((c + 1 : Nat) : Int), un R (wA B tp a).toNat (xA B tp a))
    else (-2 - (8 * (sA B tp (zA B tp a) : Int) + 1), un R (wA B tp a).toNat (xA B tp a))
theorem plF_succ (B : Nat → Int) (tp : Nat) (lo hi : Nat → Int) (u a : Nat) (R X : Nat → Int) (c : Nat) : plF B tp lo hi (u + 1) a R X c = (if ¬ lnF B tp lo hi X a = 0 then (-2 - lnF B tp lo hi X a, R)
    else if bA B tp (sA B tp (zA B tp a)) = 59 then plF B tp lo hi u (sA B tp (zA B tp a) + 1) (un R (wA B tp a).toNat (xA B tp a)) (un X (wA B tp a).toNat (ibw true 1)) (c + 1)
    else if bA B tp (sA B tp (zA B tp a)) = -1 then (((c + 1 : Nat) : Int), un R (wA B tp a).toNat (xA B tp a))
    else (-2 - (8 * (sA B tp (zA B tp a) : Int) + 1), un R (wA B tp a).toNat (xA B tp a))) := rfl
/-- what is kept of the object but for the reader's own fields -/
def kpH (H K : Nat → Int) : Prop := ∀ k, k ≠ 9 → k ≠ 10 → K k = H k
theorem kpH_un9 {H : Nat → Int} {x : Int} : kpH H (un H 9 x) := fun k h _ => un_ne h
theorem kpH_un10 {H : Nat → Int} {x y : Int} : kpH H (un (un H 9 x) 10 y) := fun k h h2 => (un_ne h2).trans (un_ne h)
theorem c_line {tp a : Nat} {H B R X lo hi : Nat → Int} (hT : ShM T) (hd : 3 ≤ d) (htp : H 1 = (tp : Int)) (htp2 : tp ≤ 200) (ha : H 9 = (a : Int)) (ha2 : a ≤ tp) (hB : I 275 = B) (hW : ∀ q, q < 72 → I 276 q = wdT q) (hlo : ∀ k : Nat, k < 9 → I 277 k = lo k) (hhi : ∀ k : Nat, k < 9 → I 278 k = hi k)
  (hq1 : lnF B tp lo hi X a = 0 → Q (some (aI 1)) T (sr (sr (sr I 281 (un R (wA B tp a).toNat (xA B tp a))) 282 (un X (wA B tp a).toNat (ibw true 1))) 274 (un H 9 ((zA B tp a : Nat) : Int))))
  (hq0 : ¬ lnF B tp lo hi X a = 0 → ∀ (R2 X2 K : Nat → Int) (b : Nat), kpH H K → K 10 = lnF B tp lo hi X a → K 9 = (b : Int) → b ≤ tp → Q (some (aI 0)) T (sr (sr (sr I 281 R2) 282 X2) 274 K)) : EvE G mX12_readsLine d [aR 274] T (sr (sr (sr I 281 R) 282 X) 274 H) Q := by
  refine c_readsLine (tp := tp) (a := a) (q := wA B tp a) (x := xA B tp a) (s := sA B tp a) (en := eA B tp a) (t := tA B tp a) (z := zA B tp a) (lo := lo) (hi := hi) hT hd htp htp2 ha ha2 hB rfl hW hlo hhi rfl rfl rfl rfl rfl ?_ ?_ ?_ ?_ ?_
  · intro h
    have e : lnF B tp lo hi X a = 8 * (sA B tp a : Int) + 1 := by unfold lnF; rw [if_pos h]
    exact hq0 (by omega) _ _ _ (sA B tp a) kpH_un10 (un_at.trans e.symm) ((un_ne (by decide)).trans un_at) (sA_le ha2)
  · intro w h1 h2
    have e : lnF B tp lo hi X a = 8 * (sA B tp a : Int) + 3 := by unfold lnF; rw [if_neg (by omega), h1, Int.toNat_natCast, if_pos h2]
    exact hq0 (by omega) _ _ _ (sA B tp a) kpH_un10 (un_at.trans e.symm) ((un_ne (by decide)).trans un_at) (sA_le ha2)
  · intro w h1 h2 h3
    have e : lnF B tp lo hi X a = 8 * (tA B tp a : Int) + 1 := by unfold lnF; rw [if_neg (by omega), h1, Int.toNat_natCast, if_neg (fun g => g h2), if_pos h3]
    exact hq0 (by omega) _ _ _ (tA B tp a) kpH_un10 (un_at.trans e.symm) ((un_ne (by decide)).trans un_at) (tA_le ha2)
  · intro w h1 h2 h3 h4
    have e : lnF B tp lo hi X a = 8 * (tA B tp a : Int) + 2 := by unfold lnF; rw [if_neg (by omega), h1, Int.toNat_natCast, if_neg (fun g => g h2), if_neg (fun g => g h3), if_pos h4]
    exact hq0 (by omega) _ _ _ (zA B tp a) kpH_un10 (un_at.trans e.symm) ((un_ne (by decide)).trans un_at) (zA_le ha2)
  · intro w h1 h2 h3 h4
    have e : lnF B tp lo hi X a = 0 := by unfold lnF; rw [if_neg (by omega), h1, Int.toNat_natCast, if_neg (fun g => g h2), if_neg (fun g => g h3), if_neg (fun g => g h4)]
    have h := hq1 e
    rw [h1, Int.toNat_natCast] at h
    exact h
end M32
