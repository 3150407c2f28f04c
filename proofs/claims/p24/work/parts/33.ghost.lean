/-! ===== places beyond an object's fields: numbers of our own, that the machine doesn't have ===== -/
theorem sv_gh {base : Nat} {sh : List mE} {I I' : Nat → Nat → Int32} {L : Nat → Nat → Int64} {R : Nat → Nat → Option Nat} {a k t : Nat} (h : I a k = I' a k) : sv base (sh, I, L, R) a k t = sv base (sh, I', L, R) a k t := by
  unfold sv
  split
  · rfl
  · rfl
  · dsimp only; rw [h]
theorem HR_gh {D : va_G} {base : Nat} {cA : Nat → ClassId} {sh : List mE} {I : Nat → Nat → Int32} {L : Nat → Nat → Int64} {R : Nat → Nat → Option Nat} {U : State} {H0 H : Heap} {q g c : Nat} {x : Int32} (hq : sh[q]? = some (.inr c)) (hg : (flds c).length ≤ g) (h : HR D base cA (sh, I, L, R) U H0 H) : HR D base cA (sh, up2 I q g x, L, R) U H0 H := by
  refine ⟨h.1, h.2.1, fun a e he => ?_⟩
  have h3 := h.2.2 a e he
  have same : ∀ k : Nat, (a = q → k < (flds c).length) → I a k = up2 I q g x a k := by
    intro k hk
    unfold up2
    split
    · next e1 =>
      rw [if_neg]
      intro e2
      have := hk e1
      omega
    · rfl
  unfold cellOK at h3 ⊢
  cases e with
  | inr ci =>
    refine h3.to (fun k hk => sv_gh (same k (fun e1 => ?_)))
    subst e1
    dsimp only at he
    rw [hq] at he
    cases he
    exact hk
  | inl t =>
    dsimp only at h3 ⊢
    refine ⟨?_, h3.2⟩
    rw [h3.1]
    congr 2
    funext k
    refine sv_gh (same k (fun e1 => ?_))
    subst e1
    dsimp only at he
    rw [hq] at he
    cases he
theorem fresh_gh {sh : List mE} {I : Nat → Nat → Int32} {L : Nat → Nat → Int64} {R : Nat → Nat → Option Nat} {q g : Nat} {x : Int32} {e : mE} (hq : sh[q]? = some e) (h : fresh (sh, I, L, R)) : fresh (sh, up2 I q g x, L, R) := by
  intro a ha k
  have hlt : q < sh.length := (List.getElem?_eq_some_iff.mp hq).1
  have := h a ha k
  refine ⟨?_, this.2⟩
  show up2 I q g x a k = 0
  unfold up2
  rw [if_neg (by dsimp only at ha; omega)]
  exact this.1
/-- a number of our own is set -/
theorem XF.gh {dd : Nat} {Q : Option Value → mW → Prop} {t : mFr} {fs : List mFr} {sh : List mE} {I : Nat → Nat → Int32} {L : Nat → Nat → Int64} {R : Nat → Nat → Option Nat} {q g c : Nat} {x : Int32} (hq : sh[q]? = some (.inr c)) (hg : (flds c).length ≤ g) (K : XF none dd 0 0 Q t fs (sh, up2 I q g x, L, R)) : XF none dd 0 0 Q t fs (sh, I, L, R) := by
  have one : ∀ (M : mMt) (d mc ms : Nat) (Q' : Option Value → mW → Prop), XW t.1 M none d mc ms Q' (t.2.1, t.2.2.1, t.2.2.2, (sh, up2 I q g x, L, R)) → XW t.1 M none d mc ms Q' (t.2.1, t.2.2.1, t.2.2.2, (sh, I, L, R)) := by
    intro M d mc ms Q' K D base xa p l e Rm s m args below meth c Z H locs cells slots lsA cA hC hfr hlo hce hsl hH hL hlv hret
    exact K D base xa p l e Rm s m args below meth c Z H locs cells slots lsA cA hC hfr hlo hce hsl (HR_gh hq hg hH) hL hlv hret
  cases fs with
  | nil =>
    unfold XF at K ⊢
    intro hf M hM
    exact one M _ _ _ _ (K (fresh_gh hq hf) M hM)
  | cons f fs =>
    unfold XF at K ⊢
    intro hf M hM
    exact one M _ _ _ _ (K (fresh_gh hq hf) M hM)
