/-! ===== one step of the world of numbers is one step of the machine ===== -/
theorem obj_code : Cond.code objectInit ⟨#[0xb1]⟩ 1 none ∈ lw_tbk := tbk_of (List.mem_of_getElem? (i := 162) rfl) rfl
theorem ck_at {j : Nat} {M : mMt} {pc : Nat} {e : mIn} (hall : ∀ k : Nat, ∀ (a : List mMt) (b : List (List (List mIn))), mts[k]? = some a → mcs[k]? = some b → (a.zip b).all (fun q => q.2.all (fun l => l.all (okE q.1.1 q.1.2.2.1))) = true) (hM : mt j = some M) (he : mcode j pc = some e) : okE M.1 M.2.2.1 e = true ∧ e.1 = pc := by
  unfold mt at hM
  obtain ⟨a, ha, hM⟩ := Option.bind_eq_some_iff.mp hM
  unfold mcode mcl at he
  obtain ⟨l, hl, he⟩ := Option.bind_eq_some_iff.mp he
  cases hb : (mcs[j / 40]?).bind (fun l => l[j % 40]?) with
  | none => rw [hb] at hl; simp at hl
  | some cd =>
    rw [hb] at hl
    obtain ⟨b, hb1, hb2⟩ := Option.bind_eq_some_iff.mp hb
    have h1 := List.all_eq_true.mp (hall _ a b ha hb1) (M, cd) (List.mem_of_getElem? (i := j % 40) (by rw [List.getElem?_zip_eq_some]; exact ⟨hM, hb2⟩))
    have h2 := List.all_eq_true.mp h1 l (List.mem_of_getElem? hl)
    have h3 := List.all_eq_true.mp h2 e (List.mem_of_find?_eq_some he)
    exact ⟨h3, by simpa using List.find?_some he⟩
theorem ck_all : ∀ k : Nat, ∀ (a : List mMt) (b : List (List (List mIn))), mts[k]? = some a → mcs[k]? = some b → (a.zip b).all (fun q => q.2.all (fun l => l.all (okE q.1.1 q.1.2.2.1))) = true := by
  intro k a b ha hb
  match k, ha, hb with
  | 0, ha, hb => cases ha; cases hb; exact ckm_0
  | 1, ha, hb => cases ha; cases hb; exact ckm_1
  | 2, ha, hb => cases ha; cases hb; exact ckm_2
  | 3, ha, hb => cases ha; cases hb; exact ckm_3
  | 4, ha, hb => cases ha; cases hb; exact ckm_4
  | 5, ha, hb => cases ha; cases hb; exact ckm_5
  | 6, ha, hb => cases ha; cases hb; exact ckm_6
  | 7, ha, hb => cases ha; cases hb; exact ckm_7
  | 8, ha, hb => cases ha; cases hb; exact ckm_8
  | 9, ha, hb => cases ha; cases hb; exact ckm_9
  | k + 10, ha, hb => simp [mts] at ha
/-- what a row of the code's table says -/
theorem row_ok {j : Nat} {M : mMt} {pc : Nat} {ins : Instr} {pc0 len a b h : Nat} {v : Int} (hM : mt j = some M) (he : mcode j pc = some (pc0, ins, len, a, b, v, h)) : decode M.2.2.1 pc = .ok (ins, len) ∧ (len = ilen ins ∨ ilen ins = 0) ∧ okL M.1 (pc, ins, len, a, b, v, h) = true := by
  obtain ⟨h1, h2⟩ := ck_at ck_all hM he
  dsimp only at h2
  subst h2
  unfold okE at h1
  dsimp only at h1
  split at h1
  · next q hq =>
    simp only [Bool.and_eq_true, Bool.or_eq_true, decide_eq_true_eq] at h1
    obtain ⟨⟨⟨e1, e2⟩, e3⟩, e4⟩ := h1
    have e1 : q.1 = ins := e1.elim qI_ok id
    refine ⟨?_, e3, e4⟩
    rw [hq, ← e1, ← e2]
  · cases h1
/-- what the tables say of a method that isn't the law -/
def mOK (M : mMt) : Prop := M.2.1.cls = mcn M.1 ∧ (∀ a : Nat, iniOf M = a → a < 13 → M.2.1.name = "<init>" ∧ a = M.1)
theorem mts_all {P : mMt → Prop} (h0 : ∀ M ∈ mt_0, P M) (h1 : ∀ M ∈ mt_1, P M) (h2 : ∀ M ∈ mt_2, P M) (h3 : ∀ M ∈ mt_3, P M) (h4 : ∀ M ∈ mt_4, P M) (h5 : ∀ M ∈ mt_5, P M) (h6 : ∀ M ∈ mt_6, P M) (h7 : ∀ M ∈ mt_7, P M) (h8 : ∀ M ∈ mt_8, P M) (h9 : ∀ M ∈ mt_9, P M) {j : Nat} {M : mMt} (hM : mt j = some M) : P M := by
  unfold mt at hM
  obtain ⟨a, ha, hM⟩ := Option.bind_eq_some_iff.mp hM
  have hm := List.mem_of_getElem? hM
  generalize j / 40 = k at ha
  match k, ha with
  | 0, ha => cases ha; exact h0 M hm
  | 1, ha => cases ha; exact h1 M hm
  | 2, ha => cases ha; exact h2 M hm
  | 3, ha => cases ha; exact h3 M hm
  | 4, ha => cases ha; exact h4 M hm
  | 5, ha => cases ha; exact h5 M hm
  | 6, ha => cases ha; exact h6 M hm
  | 7, ha => cases ha; exact h7 M hm
  | 8, ha => cases ha; exact h8 M hm
  | 9, ha => cases ha; exact h9 M hm
  | k + 10, ha => simp [mts] at ha
theorem map_at {α β : Type} {f g : α → β} {l : List α} (e : l.map f = l.map g) {x : α} (hx : x ∈ l) : f x = g x := List.map_inj_left.mp e x hx
theorem mOK_of {l : List mMt} (e : l.map (fun M => mN[M.1]?) = l.map (fun M => some M.2.1.cls)) (e2 : l.map (fun M => if M.2.2.2.2.2.2.2 = 99 then "<init>" else M.2.1.name) = l.map (fun _ => "<init>"))
    (e3 : l.all (fun M => decide ((parseMethodDescriptor M.2.1.desc).map (fun d => d.parameters.length + (bif M.2.2.2.2.2.1 then 0 else 1)) = some M.2.2.2.2.2.2.1) && decide (M.2.2.2.1 ≤ 40) && (bif M.2.2.2.2.2.1 then true else decide (M.1 < 13)) && (decide (M.2.2.2.2.2.2.2 = 99) || decide (M.2.2.2.2.2.2.2 = M.1))) = true) : ∀ M ∈ l, mOK M := by
  intro M hM
  refine ⟨?_, ?_⟩
  · have h1 := map_at e hM
    unfold mcn
    rw [List.getD_eq_getElem?_getD, h1]
    rfl
  · intro a ha hlt
    have h2 := map_at e2 hM
    have h3 := List.all_eq_true.mp e3 M hM
    simp only [Bool.and_eq_true, Bool.or_eq_true, decide_eq_true_eq] at h3
    unfold iniOf at ha
    have hne : ¬ M.2.2.2.2.2.2.2 = 99 := by omega
    rw [if_neg hne] at h2
    exact ⟨h2, by rcases h3.2 with h | h <;> omega⟩
theorem mOK_at {j : Nat} {M : mMt} (hM : mt j = some M) : mOK M := mts_all (mOK_of wn_0 we_0 wd_0) (mOK_of wn_1 we_1 wd_1) (mOK_of wn_2 we_2 wd_2) (mOK_of wn_3 we_3 wd_3) (mOK_of wn_4 we_4 wd_4) (mOK_of wn_5 we_5 wd_5) (mOK_of wn_6 we_6 wd_6) (mOK_of wn_7 we_7 wd_7) (mOK_of wn_8 we_8 wd_8) (mOK_of wn_9 we_9 wd_9) hM
theorem fl13 {a b : Nat} {f : mFl} (h : (flds a)[b]? = some f) : a < 13 := by
  obtain ⟨q, f', hq, -⟩ := mfn_at (List.getElem?_eq_some_iff.mp h).1
  have := (List.getElem?_eq_some_iff.mp hq).1
  simpa [mF] using this
set_option maxHeartbeats 2000000 in
theorem XW.step {j : Nat} {M : mMt} {X : mX} {d mc ms k n : Nat} {Q : Option Value → mW → Prop} {S S' : mS} (hM : mt j = some M) (h : step1 j M X S = some (S', k, n)) (hk : k ≤ mc) (hn : n ≤ ms) (K : XW j M X d (mc - k) (ms - n) Q S') : XW j M X d mc ms Q S := by
  intro D base xa p l e R s m args below meth c Z H locs cells slots ls cA hC hfr hlo hce hsl hH hL hl hret
  obtain ⟨hx, hb, hr, hml, hown, hts, hlk, hnm, hKn, hX⟩ := id hC
  obtain ⟨hcl, hini⟩ := mOK_at hM
  rw [hcl] at hown
  obtain ⟨pc, lv, st, w⟩ := S
  unfold step1 at h
  dsimp only at h hH hl ⊢
  split at h
  · cases h
  · next pc0 ins len a b v hh he =>
    obtain ⟨hd, hlen, ho⟩ := row_ok hM he
    have plain : ∀ (pc' : Nat) (lv' : mL) (st' : List Value) (w' : mW) (H' : Heap) (locs' : List Loc) (ls' : Array Slot) (cA' : Nat → ClassId), S' = (pc', lv', st', w') → k = 0 → n = 0 → HR D base cA' w' s s.heap H' → (∀ q ∈ locs', base ≤ q.base) → lv_has ls' M.2.2.2.1 (trl base xa lv') → W p l e R s m args below meth c H' locs' cells slots Z (F0 m pc' ls' (st'.map (trv base xa))) := by
      intro pc' lv' st' w' H' locs' ls' cA' hS hk0 hn0 hH' hL' hl'
      subst hS; subst hk0; subst hn0
      exact K D base xa p l e R s m args below meth c Z H' locs' cells slots ls' cA' hC hfr hlo hce hsl hH' hL' hl' hret
    split at h
    · split at h
      · next st' hs =>
        cases h
        obtain rfl : len = 3 := by rcases hlen with q | q <;> simp [ilen] at q <;> exact q
        exact rw_ldf hx hb hown hts hKn.1 hH hd (of_decide_eq_true ho) hs (plain _ _ _ _ _ _ _ _ rfl rfl rfl hH hL hl)
      · cases h
    · split at h
      · next st' w' hs =>
        cases h
        obtain rfl : len = 3 := by rcases hlen with q | q <;> simp [ilen] at q <;> exact q
        refine rw_stf hx hb hown hts hKn.1 hH hL hd (of_decide_eq_true ho) (fun q => ?_) hs (fun H' locs' hH' hL' => plain _ _ _ _ _ _ _ _ rfl rfl rfl hH' hL' hl)
        have ha13 : a < 13 := by
          unfold stf at hs
          dsimp only at hs
          repeat' split at hs
          all_goals first | (cases hs; done) | exact fl13 (by assumption)
        rw [hnm (by rw [show M.2.2.2.2.2.2.2 = a from q]; exact ha13)]
        exact hini a q ha13
      · cases h
    · next i nn =>
      split at h
      · next x hx1 =>
        split at h
        · next hi =>
          cases h
          obtain rfl : len = 3 := by rcases hlen with q | q <;> simp [ilen] at q <;> exact q
          obtain ⟨kk, hkk⟩ := List.getElem?_of_mem (List.mem_map.mpr ⟨(i, Value.int x), lkp_mem hx1, rfl⟩ : (i, trv base xa (Value.int x)) ∈ trl base xa lv)
          exact lv_iinc hx hb hd hl hkk rfl hi rfl (fun lsB hB => plain _ _ _ _ _ _ _ _ rfl rfl rfl hH hL (by rw [trl_sto1]; exact hB))
        · cases h
      · cases h
    · split at h
      · next i _ r =>
        split at h
        · next hbb =>
          cases h
          obtain ⟨hb9, hcat⟩ := hbb
          subst hb9
          obtain rfl : len = 3 := by rcases hlen with q | q <;> simp [ilen] at q <;> exact q
          unfold okL at ho
          dsimp only at ho
          rw [if_pos rfl] at ho
          have hoi := oiC_in (of_decide_eq_true ho)
          have hinst : Cond.instanceMethod objectInit ∈ lw_tbk := tbk_of (by decide +kernel) rfl
          refine W.objInit hx hb hown (hts _ hoi) (hts _ hinst) (hts _ obj_code) rfl (by rw [hml]; exact hl.1) rfl hd (by omega) ?_ (plain _ _ _ _ _ _ _ _ rfl rfl rfl hH hL hl)
          have hc2 : ((r.map (trv base xa)).map fun v => v.category).sum = (r.map fun v => v.category).sum := by
            rw [List.map_map]
            congr 1
            apply List.map_congr_left
            intro v _
            exact trv_cat base xa v
          show 2 * 0 + ((r.map (trv base xa)).map fun v => v.category).sum + 12 ≤ R.locals
          rw [hc2]
          omega
        · cases h
      · cases h
    · split at h
      · next u hs => cases h; exact rw_psh hx hb hd hlen hl hs (plain _ _ _ _ _ _ _ _ rfl rfl rfl hH hL hl)
      · split at h
        · next pc' st' hs => cases h; exact rw_brn hx hb hd hlen ho hs (plain _ _ _ _ _ _ _ _ rfl rfl rfl hH hL hl)
        · split at h
          · next st' hs => cases h; exact rw_lda hx hb hH hX hd hlen hs (plain _ _ _ _ _ _ _ _ rfl rfl rfl hH hL hl)
          · split at h
            · next st' w' hs => cases h; exact rw_sta hx hb hH hL hd hlen hs (fun H' locs' hH' hL' => plain _ _ _ _ _ _ _ _ rfl rfl rfl hH' hL' hl)
            · split at h
              · next u hs => cases h; exact rw_ldk hx hb hown hts hd hlen ho hs (plain _ _ _ _ _ _ _ _ rfl rfl rfl hH hL hl)
              · split at h
                · next st' w' n' hs =>
                  cases h
                  refine rw_nwc hx hb hown hts hKn.1 hH hd hlen ho hs (by omega) (by omega) (fun H' cA' hH' => ?_)
                  exact K D base xa p l e R s m args below meth c Z H' locs (cells + 1) (slots + n) ls cA' hC hfr hlo (by omega) (by omega) hH' hL hl (fun r w2 H2 locs2 ls2 cA2 c2 s2 pc2 q1 q2 q3 q4 q5 q6 => hret r w2 H2 locs2 ls2 cA2 c2 s2 pc2 q1 q2 q3 (by omega) (by omega) q6)
                · split at h
                  · next st' hs => cases h; exact rw_stk hx hb hd hlen hs (plain _ _ _ _ _ _ _ _ rfl rfl rfl hH hL hl)
                  · split at h
                    · next u r =>
                      split at h
                      · next ls2 hs => cases h; exact rw_stl hx hb hd hlen hl hs (fun lsB hB => plain _ _ _ _ _ _ _ _ rfl rfl rfl hH hL hB)
                      · cases h
                    · cases h
