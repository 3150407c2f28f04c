/-! ===== certificates: cut places, entailment, ranks ===== -/
/-- a rank: forms -/
abbrev aC : Type := aS × List aI
abbrev aH : Type := List (Nat × aI)
def tht (th : aH) (x : Nat) : Option aI := match th.find? (fun e => Nat.beq e.1 x) with
  | some e => some e.2
  | none => none
def rhoC (th : aH) (rho : Nat → Int) (x : Nat) : Int := match tht th x with
  | some a => fvl rho a
  | none => 0
def sbl (th : aH) : aL → Option aI
  | [] => some (nK 0)
  | e :: l => match tht th e.1 with
    | some b => match sbl th l with
      | some r => some (nad r (nsc e.2 b))
      | none => none
    | none => none
def sba (th : aH) (a : aI) : Option aI := match sbl th a.2 with
  | some r => some (nad r (nK a.1))
  | none => none
def thok (B : aB) (th : aH) : Bool := th.all (fun e => nbb B.1 e.2 && in32 (ivl B e.2).1 (ivl B e.2).2)
theorem tht_mem {th : aH} {x : Nat} {a : aI} (h : tht th x = some a) : (x, a) ∈ th := by
  unfold tht at h
  split at h
  · next e he =>
    cases h
    have h1 := List.find?_some he
    have h2 : e.1 = x := Nat.eq_of_beq_eq_true h1
    have := List.mem_of_find?_eq_some he
    rw [← h2]
    exact this
  · cases h
theorem sbl_ok {th : aH} {rho : Nat → Int} : ∀ {l : aL} {b : aI}, sbl th l = some b → fvl rho b = fev (rhoC th rho) l ∧ ∀ n, (∀ e ∈ th, nb n e.2) → nb n b
  | [], b, h => by
    cases h
    exact ⟨fvl_K, fun n _ => nb_K⟩
  | e :: l, b, h => by
    unfold sbl at h
    split at h
    · next a ha =>
      split at h
      · next r hr =>
        cases h
        obtain ⟨i1, i2⟩ := sbl_ok (rho := rho) hr
        refine ⟨?_, fun n hn => nb_ad (i2 n hn) (nb_sc (hn _ (tht_mem ha)))⟩
        rw [fvl_ad, fvl_sc, i1]
        have e1 : rhoC th rho e.1 = fvl rho a := by unfold rhoC; rw [ha]
        show _ = e.2 * rhoC th rho e.1 + fev (rhoC th rho) l
        rw [e1]
        omega
      · cases h
    · cases h
theorem sba_ok {th : aH} {rho : Nat → Int} {a b : aI} (h : sba th a = some b) : fvl rho b = fvl (rhoC th rho) a ∧ ∀ n, (∀ e ∈ th, nb n e.2) → nb n b := by
  unfold sba at h
  split at h
  · next r hr =>
    cases h
    obtain ⟨i1, i2⟩ := sbl_ok (rho := rho) hr
    refine ⟨?_, fun n hn => nb_ad (i2 n hn) nb_K⟩
    rw [fvl_ad, fvl_K, i1]
    unfold fvl
    omega
  · cases h
def vle (n : Nat) (th : aH) (a a' : aV) : Bool := match a, a' with
  | .inl x, .inl y => nbb n x && (match sba th x with
    | some z => neq z y
    | none => false)
  | .inr none, .inr none => true
  | .inr (some p), .inr (some q) => Nat.beq p q
  | _, _ => false
def lle (n : Nat) (th : aH) (ls ls' : List (Nat × aV)) : Bool := ls.all (fun e => match alk ls' e.1 with
  | some a' => vle n th e.2 a'
  | none => false)
def sle (n : Nat) (th : aH) : List aV → List aV → Bool
  | [], [] => true
  | a :: s, a' :: s' => vle n th a a' && sle n th s s'
  | _, _ => false
def fle (n : Nat) (th : aH) (f f' : aF) : Bool := Nat.beq f.2.1 f'.2.1 && (Nat.beq f.1 f'.1 && (sle n th f.2.2.2 f'.2.2.2 && lle n th f.2.2.1 f'.2.2.1))
def fsle (n : Nat) (th : aH) : List aF → List aF → Bool
  | [], [] => true
  | f :: s, f' :: s' => fle n th f f' && fsle n th s s'
  | _, _ => false
def bdle (th : aH) (B B' : aB) (F' : List aI) : Bool := thok B' th && B.2.all (fun e => Nat.ble (e.1 + 1) B.1 && (match tht th e.1 with
  | some z => btw B' F' z e.2.1 e.2.2
  | none => false))
def ple (n : Nat) (th : aH) (P P' : aP) : Bool := P.all (fun e => nbb n e.1.2 && (nbb n e.2 && (match sba th e.1.2 with
  | some k => (match sba th e.2 with
    | some z => (match plk P' e.1.1 k with
      | some y => neq y z
      | none => false)
    | none => false)
  | none => false)))
def cle (n : Nat) (th : aH) (F : List aI) (B' : aB) (F' : List aI) : Bool := F.all (fun f => nbb n f && (match sba th f with
  | some g => prv B' F' g
  | none => false))
def gle (n : Nat) (th : aH) : List aI → List aI → Bool
  | [], [] => true
  | a :: s, a' :: s' => nbb n a && ((match sba th a with
    | some z => neq z a'
    | none => false) && gle n th s s')
  | _, _ => false
/-- A (as it came) is one of C -/
def ent (th : aH) (C A : aS) : Bool := fle C.2.2.1.1 th C.1 A.1 && (fsle C.2.2.1.1 th C.2.1 A.2.1 && (bdle th C.2.2.1 A.2.2.1 A.2.2.2.2.1 && (ple C.2.2.1.1 th C.2.2.2.1 A.2.2.2.1 && (cle C.2.2.1.1 th C.2.2.2.2.1 A.2.2.1 A.2.2.2.2.1 && gle C.2.2.1.1 th C.2.2.2.2.2 A.2.2.2.2.2))))
theorem vle_ok {n n' : Nat} {th : aH} {rho : Nat → Int} {a a' : aV} {v : Value} (h : vle n th a a' = true) (hv : vOK n' rho a' v) : vOK n (rhoC th rho) a v := by
  unfold vle at h
  split at h
  · next x y =>
    obtain ⟨hy, i, rfl, hi⟩ := hv
    rw [Bool.and_eq_true] at h
    obtain ⟨h1, h2⟩ := h
    split at h2
    · next z hz =>
      have e1 := neq_ok h2
      subst e1
      exact ⟨nbb_ok h1, i, rfl, by rw [hi]; exact (sba_ok hz).1⟩
    · cases h2
  · exact hv
  · next p q =>
    have e1 := Nat.eq_of_beq_eq_true h
    rw [e1]
    exact hv
  · cases h
theorem sle_ok {n n' : Nat} {th : aH} {rho : Nat → Int} : ∀ {s s' : List aV} {l : List Value}, sle n th s s' = true → sOK n' rho s' l → sOK n (rhoC th rho) s l
  | [], [], [], _, _ => trivial
  | [], [], _ :: _, _, h => h.elim
  | a :: s, a' :: s', v :: l, h, hs => by
    unfold sle at h
    rw [Bool.and_eq_true] at h
    exact ⟨vle_ok h.1 hs.1, sle_ok h.2 hs.2⟩
  | _ :: _, _ :: _, [], _, h => h.elim
  | [], _ :: _, _, h, _ => by cases h
  | _ :: _, [], _, h, _ => by cases h
theorem fle_ok {n n' : Nat} {th : aH} {rho : Nat → Int} {f f' : aF} {g : mFr} (h : fle n th f f' = true) (hg : fOK n' rho f' g) : fOK n (rhoC th rho) f g := by
  unfold fle at h
  simp only [Bool.and_eq_true] at h
  obtain ⟨h1, h2, h3, h4⟩ := h
  obtain ⟨g1, g2, g3, g4⟩ := hg
  refine ⟨(Nat.eq_of_beq_eq_true h2).trans g1, (Nat.eq_of_beq_eq_true h1).trans g2, fun i a hm => ?_, sle_ok h3 g4⟩
  have := List.all_eq_true.mp h4 (i, a) hm
  dsimp only at this
  split at this
  · next a' ha =>
    obtain ⟨v, q1, q2⟩ := g3 i a' (alk_mem ha)
    exact ⟨v, q1, vle_ok this q2⟩
  · cases this
theorem fsle_ok {n n' : Nat} {th : aH} {rho : Nat → Int} : ∀ {s s' : List aF} {l : List mFr}, fsle n th s s' = true → fsOK n' rho s' l → fsOK n (rhoC th rho) s l
  | [], [], [], _, _ => trivial
  | [], [], _ :: _, _, h => h.elim
  | a :: s, a' :: s', v :: l, h, hs => by
    unfold fsle at h
    rw [Bool.and_eq_true] at h
    exact ⟨fle_ok h.1 hs.1, fsle_ok h.2 hs.2⟩
  | _ :: _, _ :: _, [], _, h => h.elim
  | [], _ :: _, _, h, _ => by cases h
  | _ :: _, [], _, h, _ => by cases h
theorem gle_ok {n n' : Nat} {th : aH} {rho : Nat → Int} : ∀ {G G' : List aI} {gv : List Int}, gle n th G G' = true → gOK n' rho G' gv → gOK n (rhoC th rho) G gv
  | [], [], [], _, _ => trivial
  | [], [], _ :: _, _, h => h.elim
  | a :: s, a' :: s', v :: l, h, hs => by
    unfold gle at h
    simp only [Bool.and_eq_true] at h
    obtain ⟨h1, h2, h3⟩ := h
    split at h2
    · next z hz =>
      have e1 := neq_ok h2
      subst e1
      exact ⟨⟨nbb_ok h1, by rw [← (sba_ok hz).1]; exact hs.1.2⟩, gle_ok h3 hs.2⟩
    · cases h2
  | _ :: _, _ :: _, [], _, h => h.elim
  | [], _ :: _, _, h, _ => by cases h
  | _ :: _, [], _, h, _ => by cases h
theorem thok_ok {B : aB} {th : aH} (h : thok B th = true) : ∀ e ∈ th, nb B.1 e.2 := by
  intro e he
  have := List.all_eq_true.mp h e he
  rw [Bool.and_eq_true] at this
  exact nbb_ok this.1
theorem ent_ok {T : aT} {E : mW → Prop} {md : aM} {I0 : Nat → Nat → Int32} {gv : List Int} {th : aH} {rho : Nat → Int} {C A : aS} {K : mC} (h : ent th C A = true) (hS : SAT T E md I0 gv rho A K) : SAT T E md I0 gv (rhoC th rho) C K ∧ ∀ e ∈ th, nb A.2.2.1.1 e.2 := by
  unfold ent at h
  simp only [Bool.and_eq_true] at h
  obtain ⟨h1, h2, h3, h4, h5, h6⟩ := h
  obtain ⟨s1, s2, s3, s4, s5, s6, s7, s8⟩ := hS
  unfold bdle at h3
  rw [Bool.and_eq_true] at h3
  have hth := thok_ok h3.1
  refine ⟨⟨fle_ok h1 s1, fsle_ok h2 s2, ⟨fun x _ => ?_, fun e he => ?_⟩, fun e he => ?_, fun f hf => ?_, gle_ok h6 s6, s7, s8⟩, hth⟩
  · unfold rhoC
    split
    · next a ha =>
      have := List.all_eq_true.mp h3.1 _ (tht_mem ha)
      rw [Bool.and_eq_true] at this
      have hi := in32_iff.mp this.2
      have hv := ivf_ok s3 (nbb_ok this.1)
      dsimp only at hi hv
      omega
    · unfold lo32 hi32
      omega
  · have := List.all_eq_true.mp h3.2 e he
    rw [Bool.and_eq_true] at this
    obtain ⟨q1, q2⟩ := this
    refine ⟨Nat.le_of_ble_eq_true q1, ?_⟩
    split at q2
    · next z hz =>
      have hx := btw_ok s3 s5 (hth _ (tht_mem hz)) q2
      unfold rhoC
      rw [hz]
      exact hx
    · cases q2
  · have := List.all_eq_true.mp h4 e he
    simp only [Bool.and_eq_true] at this
    obtain ⟨q1, q2, q3⟩ := this
    refine ⟨nbb_ok q1, nbb_ok q2, ?_⟩
    split at q3
    · next k hk =>
      split at q3
      · next z hz =>
        split at q3
        · next y hy =>
          have e1 := neq_ok q3
          subst e1
          obtain ⟨a1, a2, a3, a4⟩ := s4 _ (plk_mem hy)
          dsimp only at a1 a2 a3 a4
          rw [← (sba_ok (rho := rho) hk).1, ← (sba_ok (rho := rho) hz).1]
          exact ⟨a3, a4⟩
        · cases q3
      · cases q3
    · cases q3
  · have := List.all_eq_true.mp h5 f hf
    rw [Bool.and_eq_true] at this
    obtain ⟨q1, q2⟩ := this
    refine ⟨nbb_ok q1, ?_⟩
    split at q2
    · next g hg =>
      rw [← (sba_ok (rho := rho) hg).1]
      exact prv_ok s3 s5 ((sba_ok (rho := rho) hg).2 _ hth) q2
    · cases q2
/-! finding the map -/
def mv1 (th : aH) (a a' : aI) : aH := match a.2 with
  | [e] => bif ieq e.2 1 then (e.1, nsb a' (nK a.1)) :: th else th
  | _ => th
def mvv (th : aH) (a a' : aV) : aH := match a, a' with
  | .inl x, .inl y => mv1 th x y
  | _, _ => th
def mvl (th : aH) (ls ls' : List (Nat × aV)) : aH := ls.foldl (fun th e => match alk ls' e.1 with
  | some a' => mvv th e.2 a'
  | none => th) th
def mvs (th : aH) : List aV → List aV → aH
  | a :: s, a' :: s' => mvs (mvv th a a') s s'
  | _, _ => th
def mvg (th : aH) : List aI → List aI → aH
  | a :: s, a' :: s' => mvg (mv1 th a a') s s'
  | _, _ => th
def mvf (th : aH) : List aF → List aF → aH
  | f :: s, f' :: s' => mvf (mvl (mvs th f.2.2.2 f'.2.2.2) f.2.2.1 f'.2.2.1) s s'
  | _, _ => th
def mvp (th : aH) (P P' : aP) : aH := P.foldl (fun th e => match sba th e.1.2 with
  | some k => (match plk P' e.1.1 k with
    | some y => mv1 th e.2 y
    | none => th)
  | none => th) th
def mth (C A : aS) : aH := mvp (mvg (mvf [] (C.1 :: C.2.1) (A.1 :: A.2.1)) C.2.2.2.2.2 A.2.2.2.2.2) C.2.2.2.1 A.2.2.2.1
/-! ranks -/
def rkK : Nat := 1099511627776
def rkN (rho : Nat → Int) : List aI → Nat
  | [] => 0
  | t :: l => (fvl rho t).toNat * rkK ^ l.length + rkN rho l
/-- the rank falls: src by the variables of the state that was left, tgt by those of the cut -/
def rcmp (th : aH) (B : aB) (F : List aI) : List aI → List aI → Bool
  | s :: ss, t :: ts => match sba th t with
    | none => false
    | some z => nbb B.1 s && (prv B F (nsb (nsb s z) (nK 1)) || (prv B F (nsb s z) && rcmp th B F ss ts))
  | _, _ => false
/-- a term lies between 0 and the bound -/
def rnn (B : aB) (t : aI) : Bool := nbb B.1 t && (ile 0 (ivl B t).1 && ile (ivl B t).2 1000000000000)
theorem rnn_ok {B : aB} {rho : Nat → Int} {t : aI} (hB : bOK B rho) (h : rnn B t = true) : 0 ≤ fvl rho t ∧ (fvl rho t).toNat < rkK := by
  unfold rnn at h
  simp only [Bool.and_eq_true, ile_iff] at h
  have hv := ivf_ok hB (nbb_ok h.1)
  unfold rkK
  omega
theorem rkN_lt {rho : Nat → Int} : ∀ {l : List aI}, (∀ t ∈ l, (fvl rho t).toNat < rkK) → rkN rho l < rkK ^ l.length
  | [], _ => by unfold rkN; decide
  | t :: l, h => by
    have ih := rkN_lt (l := l) (fun t ht => h t (List.mem_cons_of_mem _ ht))
    have h1 := h t List.mem_cons_self
    unfold rkN
    rw [List.length_cons, Nat.pow_succ, Nat.mul_comm (rkK ^ l.length)]
    have h2 : ((fvl rho t).toNat + 1) * rkK ^ l.length ≤ rkK * rkK ^ l.length := Nat.mul_le_mul_right _ h1
    rw [Nat.add_mul, Nat.one_mul] at h2
    omega
theorem rcmp_ok {th : aH} {B : aB} {F : List aI} {rho : Nat → Int} (hB : bOK B rho) (hF : cOK B.1 rho F) (hth : ∀ e ∈ th, nb B.1 e.2) : ∀ {ss ts : List aI}, ss.length = ts.length → rcmp th B F ss ts = true → (∀ t ∈ ts, 0 ≤ fvl (rhoC th rho) t ∧ (fvl (rhoC th rho) t).toNat < rkK) → rkN (rhoC th rho) ts < rkN rho ss
  | [], [], _, h, _ => by cases h
  | s :: ss, t :: ts, hl, h, hb => by
    unfold rcmp at h
    split at h
    · cases h
    · next z hz =>
      rw [Bool.and_eq_true, Bool.or_eq_true, Bool.and_eq_true] at h
      have hs := nbb_ok h.1
      obtain ⟨z1, z2⟩ := sba_ok (rho := rho) hz
      have hzn := z2 _ hth
      have hlen : ss.length = ts.length := by simpa using hl
      have ht := hb t List.mem_cons_self
      have hrest := rkN_lt (rho := rhoC th rho) (l := ts) (fun t h => (hb t (List.mem_cons_of_mem _ h)).2)
      unfold rkN
      rw [hlen]
      rcases h.2 with q | q
      · have := prv_ok hB hF (nb_sb (nb_sb hs hzn) nb_K) q
        rw [fvl_sb, fvl_sb, fvl_K, z1] at this
        have hlt : (fvl (rhoC th rho) t).toNat + 1 ≤ (fvl rho s).toNat := by omega
        have := Nat.mul_le_mul_right (rkK ^ ts.length) hlt
        rw [Nat.add_mul, Nat.one_mul] at this
        omega
      · have := prv_ok hB hF (nb_sb hs hzn) q.1
        rw [fvl_sb, z1] at this
        have ih := rcmp_ok hB hF hth hlen q.2 (fun t h => hb t (List.mem_cons_of_mem _ h))
        have hle : (fvl (rhoC th rho) t).toNat ≤ (fvl rho s).toNat := by omega
        have := Nat.mul_le_mul_right (rkK ^ ts.length) hle
        omega
  | [], _ :: _, hl, _, _ => by cases hl
  | _ :: _, [], hl, _, _ => by cases hl
/-! the exploration -/
def hit (cs : List aC) (rk : List aI) (A : aS) : Bool := cs.any (fun c => ent (mth c.1 A) c.1 A && rcmp (mth c.1 A) A.2.2.1 A.2.2.2.2.1 rk c.2)
noncomputable def expl (stp : aS → Option (List aS)) (cs : Nat → List aC) (rk : List aI) : Nat → aS → Bool
  | 0, _ => false
  | n + 1, A => match stp A with
    | none => false
    | some As => As.all (fun A' => Nat.ble A.2.2.1.1 A'.2.2.1.1 && (hit (cs A'.1.2.1) rk A' || expl stp cs rk n A'))
section EXPL
variable {T : aT} {E : mW → Prop} {md : aM} {Z : aZ} {av : List Value} {I0 : Nat → Nat → Int32} {dd : Nat}
theorem expl_ok {stp : aS → Option (List aS)} {cs : Nat → List aC} {rk : List aI} (hst : ∀ A As, stp A = some As → Snd T E md Z av I0 dd A As) {R n0 : Nat} {rho0 : Nat → Int} (hR : rkN rho0 rk ≤ R) (hv : ∀ t ∈ rk, nb n0 t)
    (hlen : ∀ p, ∀ c ∈ cs p, c.2.length = rk.length ∧ ∀ t ∈ c.2, rnn c.1.2.2.1 t = true)
    (hrec : ∀ p, ∀ c ∈ cs p, ∀ rho C, SAT T E md I0 (gvOf av I0 Z) rho c.1 C → rkN rho c.2 < R → XF none dd 0 0 (Qk T E md Z.1 Z.2.1 av I0) C.1 C.2.1 C.2.2) :
    ∀ (n : Nat) (A : aS), expl stp cs rk n A = true → n0 ≤ A.2.2.1.1 → ∀ rho C, agr n0 rho0 rho → SAT T E md I0 (gvOf av I0 Z) rho A C → XF none dd 0 0 (Qk T E md Z.1 Z.2.1 av I0) C.1 C.2.1 C.2.2
  | 0, A, h, _, _, _, _, _ => by cases h
  | n + 1, A, h, hn, rho, C, ha, hS => by
    unfold expl at h
    split at h
    · cases h
    · next As hA =>
      refine hst A As hA rho C hS (fun A' hm rho' C' ha' hS' => ?_)
      have h1 := List.all_eq_true.mp h A' hm
      rw [Bool.and_eq_true, Bool.or_eq_true] at h1
      have hn' := Nat.le_of_ble_eq_true h1.1
      have ha2 : agr n0 rho0 rho' := fun x hx => (ha' x (by omega)).trans (ha x hx)
      rcases h1.2 with hh | hh
      · unfold hit at hh
        obtain ⟨c, hc, hc2⟩ := List.any_eq_true.mp hh
        rw [Bool.and_eq_true] at hc2
        obtain ⟨hSC, hth⟩ := ent_ok hc2.1 hS'
        have hl := hlen _ c hc
        have hlt := rcmp_ok (rho := rho') hS'.2.2.1 hS'.2.2.2.2.1 hth hl.1.symm hc2.2 (fun t ht => rnn_ok hSC.2.2.1 (hl.2 t ht))
        have hsame : ∀ l : List aI, (∀ t ∈ l, nb n0 t) → rkN rho' l = rkN rho0 l := by
          intro l
          induction l with
          | nil => intro _; rfl
          | cons t l ih =>
            intro hl
            have e1 : fvl rho' t = fvl rho0 t := fvl_agr ha2 (hl t List.mem_cons_self)
            have e2 := ih (fun t ht => hl t (List.mem_cons_of_mem _ ht))
            unfold rkN
            rw [e1, e2]
        rw [hsame rk hv] at hlt
        exact hrec _ c hc _ C' hSC (by omega)
      · exact expl_ok hst hR hv hlen hrec n A' hh (by omega) rho' C' ha2 hS'
/-- all cuts of a certificate -/
noncomputable def cok (stp : aS → Option (List aS)) (cs : Nat → List aC) (len fuel : Nat) (c : aC) : Bool := Nat.beq c.2.length len && (c.2.all (fun t => rnn c.1.2.2.1 t) && expl stp cs c.2 fuel c.1)
theorem cert_ok {stp : aS → Option (List aS)} {cs : Nat → List aC} {len fuel : Nat} (hst : ∀ A As, stp A = some As → Snd T E md Z av I0 dd A As) (h : ∀ p, ∀ c ∈ cs p, cok stp cs len fuel c = true) : ∀ (R : Nat) (p : Nat) (c : aC), c ∈ cs p → ∀ rho C, SAT T E md I0 (gvOf av I0 Z) rho c.1 C → rkN rho c.2 < R → XF none dd 0 0 (Qk T E md Z.1 Z.2.1 av I0) C.1 C.2.1 C.2.2 := by
  intro R
  induction R with
  | zero => intro p c hc rho C hS hlt; omega
  | succ R ih =>
    intro p c hc rho C hS hlt
    have h1 := h p c hc
    unfold cok at h1
    simp only [Bool.and_eq_true] at h1
    obtain ⟨q1, q2, q3⟩ := h1
    have hl : c.2.length = len := Nat.eq_of_beq_eq_true q1
    refine expl_ok (rk := c.2) (R := R) (n0 := c.1.2.2.1.1) (rho0 := rho) hst (by omega) (fun t ht => ?_) (fun p' c' hc' => ?_) (fun p' c' hc' rho' C' hS' hlt' => ih p' c' hc' rho' C' hS' hlt') fuel c.1 q3 (Nat.le_refl _) rho C (agr.refl _ _) hS
    · have := List.all_eq_true.mp q2 t ht
      unfold rnn at this
      rw [Bool.and_eq_true] at this
      exact nbb_ok this.1
    · have h2 := h p' c' hc'
      unfold cok at h2
      simp only [Bool.and_eq_true] at h2
      obtain ⟨r1, r2, -⟩ := h2
      refine ⟨(Nat.eq_of_beq_eq_true r1).trans hl.symm, fun t ht => ?_⟩
      exact List.all_eq_true.mp r2 t ht
/-- the rank that lies above all -/
def rk0 : Nat → List aI
  | 0 => []
  | n + 1 => nK 1000000000001 :: rk0 n
theorem rk0_len : ∀ n, (rk0 n).length = n
  | 0 => rfl
  | n + 1 => by unfold rk0; rw [List.length_cons, rk0_len n]
theorem rk0_v {m : Nat} : ∀ n, ∀ t ∈ rk0 n, nb m t
  | 0, t, h => by cases h
  | n + 1, t, h => by
    unfold rk0 at h
    rcases List.mem_cons.mp h with rfl | h
    · exact nb_K
    · exact rk0_v n t h
theorem cert_run {stp : aS → Option (List aS)} {cs : Nat → List aC} {len fuel : Nat} {A : aS} (hst : ∀ A As, stp A = some As → Snd T E md Z av I0 dd A As) (h : ∀ p, ∀ c ∈ cs p, cok stp cs len fuel c = true) (hA : expl stp cs (rk0 len) fuel A = true) {rho : Nat → Int} {C : mC} (hS : SAT T E md I0 (gvOf av I0 Z) rho A C) : XF none dd 0 0 (Qk T E md Z.1 Z.2.1 av I0) C.1 C.2.1 C.2.2 := by
  refine expl_ok (rk := rk0 len) (R := rkN rho (rk0 len)) (n0 := A.2.2.1.1) (rho0 := rho) hst (Nat.le_refl _) (rk0_v len) (fun p c hc => ?_) (fun p c hc rho' C' hS' hlt => cert_ok hst h _ p c hc rho' C' hS' hlt) fuel A hA (Nat.le_refl _) rho C (agr.refl _ _) hS
  have h2 := h p c hc
  unfold cok at h2
  simp only [Bool.and_eq_true] at h2
  obtain ⟨r1, r2, -⟩ := h2
  refine ⟨(Nat.eq_of_beq_eq_true r1).trans (rk0_len len).symm, fun t ht => ?_⟩
  exact List.all_eq_true.mp r2 t ht
end EXPL
/-! the entry -/
def eAv : Nat → List aA → List aV
  | _, [] => []
  | n, .inl _ :: ks => .inl (nV n) :: eAv (n + 1) ks
  | n, .inr o :: ks => .inr o :: eAv (n + 1) ks
def eAb : Nat → List aA → List (Nat × Int × Int)
  | _, [] => []
  | n, .inl r :: ks => (n, r.1, r.2) :: eAb (n + 1) ks
  | n, .inr _ :: ks => eAb (n + 1) ks
theorem eA_ok {N : Nat} {rho : Nat → Int} : ∀ {ks : List aA} {vs : List Value} (n : Nat), argV ks vs → n + ks.length ≤ N → (∀ k v, vs[k]? = some v → rho (n + k) = iof v) → sOK N rho (eAv n ks) vs ∧ ∀ e ∈ eAb n ks, e.1 < N ∧ e.2.1 ≤ rho e.1 ∧ rho e.1 ≤ e.2.2
  | [], [], n, _, _, _ => ⟨trivial, fun e he => by cases he⟩
  | [], _ :: _, _, h, _, _ => h.elim
  | .inl r :: ks, v :: vs, n, h, hn, hr => by
    obtain ⟨i, rfl, h1, h2⟩ := h.1
    rw [List.length_cons] at hn
    have e0 : rho n = i.toInt := hr 0 _ rfl
    obtain ⟨a1, a2⟩ := eA_ok (N := N) (rho := rho) (n + 1) h.2 (by omega) (fun k v hk => by rw [show n + 1 + k = n + (k + 1) by omega]; exact hr (k + 1) v hk)
    refine ⟨⟨⟨nb_V (by omega), i, rfl, by rw [fvl_V]; omega⟩, a1⟩, fun e he => ?_⟩
    rcases List.mem_cons.mp he with rfl | he
    · dsimp only; omega
    · exact a2 e he
  | .inr none :: ks, v :: vs, n, h, hn, hr => by
    rw [List.length_cons] at hn
    obtain ⟨a1, a2⟩ := eA_ok (N := N) (rho := rho) (n + 1) h.2 (by omega) (fun k v hk => by rw [show n + 1 + k = n + (k + 1) by omega]; exact hr (k + 1) v hk)
    exact ⟨⟨h.1, a1⟩, a2⟩
  | .inr (some q) :: ks, v :: vs, n, h, hn, hr => by
    rw [List.length_cons] at hn
    obtain ⟨a1, a2⟩ := eA_ok (N := N) (rho := rho) (n + 1) h.2 (by omega) (fun k v hk => by rw [show n + 1 + k = n + (k + 1) by omega]; exact hr (k + 1) v hk)
    exact ⟨⟨h.1, a1⟩, a2⟩
  | .inl _ :: _, [], _, h, _, _ => h.elim
  | .inr none :: _, [], _, h, _, _ => h.elim
  | .inr (some _) :: _, [], _, h, _, _ => h.elim
/-- the numbers that are kept: arguments (0 where it is no int), first contents of places -/
def eAg : Nat → List aA → List aI
  | _, [] => []
  | n, .inl _ :: ks => nV n :: eAg (n + 1) ks
  | n, .inr _ :: ks => nK 0 :: eAg (n + 1) ks
def gkp (P : aP) : List (Nat × Nat) → Option (List aI)
  | [] => some []
  | e :: l => match plk P e.1 (nK (e.2 : Int)) with
    | some a => match gkp P l with
      | some b => some (a :: b)
      | none => none
    | none => none
def eA (T : aT) (a : Nat) (ks : List aA) (pre : List aQ) (olds : List (Nat × Nat)) : Option aS := match ldP T (qpl 1 pre ++ olds) (ks.length + 1, eAb 1 ks) [] with
  | (B, P) => match qas ((eAv 1 ks).map avi) P P none pre with
    | some F => match gkp P olds with
      | some G => some ((a, 0, aarg 0 (eAv 1 ks), []), [], rfF B F, P, F, eAg 1 ks ++ G)
      | none => none
    | none => none
theorem eAg_ok {N : Nat} {rho : Nat → Int} : ∀ {ks : List aA} {vs : List Value} (n : Nat), argV ks vs → n + ks.length ≤ N → (∀ k v, vs[k]? = some v → rho (n + k) = iof v) → gOK N rho (eAg n ks) (vs.map iof)
  | [], [], n, _, _, _ => trivial
  | [], _ :: _, _, h, _, _ => h.elim
  | .inl r :: ks, v :: vs, n, h, hn, hr => by
    rw [List.length_cons] at hn
    refine ⟨⟨nb_V (by omega), by rw [fvl_V]; exact hr 0 _ rfl⟩, eAg_ok (n + 1) h.2 (by omega) (fun k v hk => by rw [show n + 1 + k = n + (k + 1) by omega]; exact hr (k + 1) v hk)⟩
  | .inr none :: ks, v :: vs, n, h, hn, hr => by
    rw [List.length_cons] at hn
    obtain ⟨l, rfl⟩ := h.1
    refine ⟨⟨nb_K, fvl_K⟩, eAg_ok (n + 1) h.2 (by omega) (fun k v hk => by rw [show n + 1 + k = n + (k + 1) by omega]; exact hr (k + 1) v hk)⟩
  | .inr (some q) :: ks, v :: vs, n, h, hn, hr => by
    rw [List.length_cons] at hn
    obtain rfl : v = .ref q := h.1
    refine ⟨⟨nb_K, fvl_K⟩, eAg_ok (n + 1) h.2 (by omega) (fun k v hk => by rw [show n + 1 + k = n + (k + 1) by omega]; exact hr (k + 1) v hk)⟩
  | .inl _ :: _, [], _, h, _, _ => h.elim
  | .inr none :: _, [], _, h, _, _ => h.elim
  | .inr (some _) :: _, [], _, h, _, _ => h.elim
theorem gkp_ok {n : Nat} {rho : Nat → Int} {P : aP} {I : Nat → Nat → Int32} (hP : pOK n rho P I) : ∀ {l : List (Nat × Nat)} {G : List aI}, gkp P l = some G → gOK n rho G (l.map (fun e => (I e.1 e.2).toInt))
  | [], G, h => by cases h; trivial
  | e :: l, G, h => by
    unfold gkp at h
    split at h
    · next a ha =>
      split at h
      · next b hb =>
        cases h
        exact ⟨plk_K hP ha, gkp_ok hP hb⟩
      · cases h
    · cases h
theorem gOK.append {n : Nat} {rho : Nat → Int} : ∀ {G : List aI} {gv : List Int} {G' : List aI} {gv' : List Int}, gOK n rho G gv → gOK n rho G' gv' → gOK n rho (G ++ G') (gv ++ gv')
  | [], [], _, _, _, h => h
  | _ :: _, _ :: _, _, _, h, h' => ⟨h.1, gOK.append h.2 h'⟩
  | [], _ :: _, _, _, h, _ => h.elim
  | _ :: _, [], _, _, h, _ => h.elim
theorem argV_len : ∀ {ks : List aA} {vs : List Value}, argV ks vs → vs.length = ks.length
  | [], [], _ => rfl
  | [], _ :: _, h => h.elim
  | .inl _ :: _, _ :: _, h => by rw [List.length_cons, List.length_cons, argV_len h.2]
  | .inr none :: _, _ :: _, h => by rw [List.length_cons, List.length_cons, argV_len h.2]
  | .inr (some _) :: _, _ :: _, h => by rw [List.length_cons, List.length_cons, argV_len h.2]
  | .inl _ :: _, [], h => h.elim
  | .inr none :: _, [], h => h.elim
  | .inr (some _) :: _, [], h => h.elim
/-- a contract by a certificate -/
theorem Kc_of {T : aT} {E : mW → Prop} {a dd : Nat} {ks : List aA} {res : Option aA} {md : aM} {pre post : List aQ} {olds : List (Nat × Nat)} {M : mMt} {stp : aS → Option (List aS)} {cs : Nat → List aC} {len fuel : Nat} {A : aS} (hM : mt a = some M) (hfit : Nat.ble (catS (eAv 1 ks)) M.2.2.2.1 = true) (hst : ∀ av I0 A As, av.length = ks.length → stp A = some As → Snd T E md (res, post, ks.length, olds) av I0 dd A As) (h : ∀ p, ∀ c ∈ cs p, cok stp cs len fuel c = true) (heA : eA T a ks pre olds = some A) (hA : expl stp cs (rk0 len) fuel A = true) : Kc T E a (dd, ks, res, md, pre, post) := by
  intro av w hw harg hpre hf
  have harg : argV ks av := harg
  have hpre : qsV av w.2.1 w.2.1 none pre := hpre
  have hlen := argV_len harg
  have hr : ∀ k v, av[k]? = some v → (fun x => if x = 0 then 0 else ((av[x - 1]?).map iof).getD 0) (1 + k) = iof v := by
    intro k v hk
    show (if 1 + k = 0 then 0 else ((av[1 + k - 1]?).map iof).getD 0) = iof v
    rw [if_neg (by omega), show 1 + k - 1 = k by omega, hk]
    rfl
  have hb0 : ∀ x : Nat, lo32 ≤ (if x = 0 then 0 else ((av[x - 1]?).map iof).getD 0) ∧ (if x = 0 then 0 else ((av[x - 1]?).map iof).getD 0) ≤ hi32 := by
    have z : lo32 ≤ 0 ∧ 0 ≤ hi32 := by unfold lo32 hi32; omega
    intro x
    split
    · exact z
    · cases hk : av[x - 1]? with
      | none => exact z
      | some v =>
        show lo32 ≤ iof v ∧ iof v ≤ hi32
        unfold iof
        split
        · exact i32b _
        · exact z
  obtain ⟨a1, a2⟩ := eA_ok (N := ks.length + 1) (rho := fun x => if x = 0 then 0 else ((av[x - 1]?).map iof).getD 0) 1 harg (by omega) hr
  have a3 := eAg_ok (N := ks.length + 1) (rho := fun x => if x = 0 then 0 else ((av[x - 1]?).map iof).getD 0) 1 harg (by omega) hr
  refine Tc.ofXF hM (by rw [lg_sl_cat, a1.cats]; exact Nat.le_of_ble_eq_true hfit) hf ?_
  unfold eA at heA
  split at heA
  next B P e1 =>
  obtain ⟨rho1, b1, b2, b3, b4⟩ := ldP_ok hw.2.2.1 (B := (ks.length + 1, eAb 1 ks)) (rho := fun x => if x = 0 then 0 else ((av[x - 1]?).map iof).getD 0) ⟨fun x _ => hb0 x, a2⟩ (fun e he => by cases he) e1
  split at heA
  · next F hF =>
    split at heA
    · next G hG =>
      cases heA
      have hq := qas_ok (r := none) (avi_ok (a1.mono b3 b1)) b4 b4 (fun a ha => by cases ha) hF
      refine cert_run (Z := (res, post, ks.length, olds)) (av := av) (I0 := w.2.1) (C := ((a, 0, lv_args 0 av, []), [], w)) (fun A As hs => hst av w.2.1 A As hlen hs) h hA (rho := rho1) ?_
      obtain ⟨u1, u2⟩ := rfF_ok (F := F) b2 (fun f hf => ⟨hq.1 f hf, hq.2.mpr hpre f hf⟩)
      unfold SAT
      dsimp only
      rw [u2]
      exact ⟨⟨rfl, rfl, fun k a hm => (aarg_ok 0 (a1.mono b3 b1) k a hm).2, trivial⟩, trivial, u1, b4, fun f hf => ⟨hq.1 f hf, hq.2.mpr hpre f hf⟩, (a3.mono b3 b1).append (gkp_ok b4 hG), hw, fun _ _ _ => rfl⟩
    · cases heA
  · cases heA
/-! a certificate as one word -/
def csOf (tab : List (Nat × List aC)) (p : Nat) : List aC := match tab.find? (fun e => Nat.beq e.1 p) with
  | some e => e.2
  | none => []
noncomputable def certB (stp : aS → Option (List aS)) (tab : List (Nat × List aC)) (len fuel : Nat) (A : Option aS) : Bool := tab.all (fun e => e.2.all (cok stp (csOf tab) len fuel)) && (match A with
  | some A => expl stp (csOf tab) (rk0 len) fuel A
  | none => false)
abbrev aW : Type := (Nat → Option mE) × (Nat → Nat → Option Nat) × (Nat → (Int × Int) ⊕ List (Int × Int)) × (Nat → Bool ⊕ List Nat) × (Nat → Bool)
def mkT (V : aW) (L : List (Nat × aK)) : aT := (V.1, V.2.1, V.2.2.1, V.2.2.2.1, fun a => (L.filter (fun e => Nat.beq e.1 a)).map (fun e => e.2), V.2.2.2.2)
noncomputable def stpO (spf : aS → Option (List aS)) (T : aT) (md : aM) (Z : aZ) (dd : Nat) (A : aS) : Option (List aS) := match spf A with
  | some As => some As
  | none => astep T md Z dd A
/-- contracts say the same over any list of contracts -/
theorem Kc_L {V : aW} {L L' : List (Nat × aK)} {E : mW → Prop} {a : Nat} {k : aK} (h : Kc (mkT V L) E a k) : Kc (mkT V L') E a k := h
theorem Kc_cert {V : aW} {L : List (Nat × aK)} {E : mW → Prop} (hE : EOK V.2.2.2.1 E) (hL : ∀ e ∈ L, Kc (mkT V []) E e.1 e.2) {a dd : Nat} {ks : List aA} {res : Option aA} {md : aM} {pre post : List aQ} {olds : List (Nat × Nat)} {M : mMt} {spf : aS → Option (List aS)} {tab : List (Nat × List aC)} {len fuel : Nat} (hdd : 41 ≤ dd) (hsp : ∀ av I0 A As, av.length = ks.length → spf A = some As → Snd (mkT V L) E md (res, post, ks.length, olds) av I0 dd A As) (hM : mt a = some M) (hfit : Nat.ble (catS (eAv 1 ks)) M.2.2.2.1 = true) (h : certB (stpO spf (mkT V L) md (res, post, ks.length, olds) dd) tab len fuel (eA (mkT V L) a ks pre olds) = true) : Kc (mkT V []) E a (dd, ks, res, md, pre, post) := by
  unfold certB at h
  rw [Bool.and_eq_true] at h
  have h2 := h.2
  split at h2
  · next A hA =>
    refine Kc_L (L := L) (Kc_of (stp := stpO spf (mkT V L) md (res, post, ks.length, olds) dd) (cs := csOf tab) (len := len) (fuel := fuel) hM hfit (fun av I0 A As hl hA => ?_) (fun p c hc => ?_) hA h2)
    · unfold stpO at hA
      split at hA
      · next As' hs => cases hA; exact hsp av I0 A _ hl hs
      · refine astep_ok (T := mkT V L) hE hl.symm hdd (fun a k hk => ?_) hA
        obtain ⟨e, he, rfl⟩ := List.mem_map.mp hk
        obtain ⟨h1, h2⟩ := List.mem_filter.mp he
        rw [← Nat.eq_of_beq_eq_true h2]
        exact Kc_L (hL e h1)
    · unfold csOf at hc
      split at hc
      · next e he => exact List.all_eq_true.mp (List.all_eq_true.mp h.1 e (List.mem_of_find?_eq_some he)) c hc
      · cases hc
  · cases h2
def noSp : aS → Option (List aS) := fun _ => none
theorem noSp_ok {T : aT} {E : mW → Prop} {md : aM} {Z : aZ} {dd n : Nat} : ∀ (av : List Value) I0 A As, av.length = n → noSp A = some As → Snd T E md Z av I0 dd A As := fun _ _ _ _ _ h => by cases h
