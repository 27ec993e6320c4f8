section SIMQ
variable {p : Program} {l : Launch} {e : Env} {s : State} {m : MethodId} {args : Array Value} {below : List Frame} {meth : Method} {c : Code} {H : Heap} {locs : List Loc} {cells slots : Nat} {Q : State → Prop}
variable {pc : Nat} {ls : Array Slot}
variable {D : va_G} {cA : Nat → ClassId} {base : Nat} {tt : Nat → Nat} {MC MS : Nat} {S Sf S1 : List Sh} {M Mf M1 : Mem} {mls : Lv} {mst : List Vv} {mid d : Nat}
theorem cells_call {d : Nat} {k : Nat} (hk : k < 206) {a b : Nat} : (rmD d a b).frames + 1 ≤ (rmD (d + 1) MC MS).frames ∧ 8 + (mL k + 11) + (rmD d a b).locals ≤ (rmD (d + 1) MC MS).locals := by
  have h := (m_facts hk).2.1
  refine ⟨Nat.le_refl _, ?_⟩
  show 8 + (mL k + 11) + (40 * d + 60) ≤ 40 * (d + 1) + 60
  omega
/-- behind a call -/
theorem afterW {r : Option Vv} {rest : List Vv} {st0 : List Value} {as : Array Value} (hC : CK D cA base tt s args) (hH : HI D cA base tt s MC MS Sf S M H locs cells slots) (hL : LR (ph base tt) (mL mid) mls ls) (hrest : ∀ v ∈ rest, okV v) (hg : Gr S S1)
    (hr : va_Run p l e (rmD (d + 1) MC MS) s m args below meth c H locs cells slots (S1.length - S.length) (tot S1 - tot S) (F0 m pc ls st0) (rest.map (rv (ph base tt))) (QQ D cA base tt r S1 M1 as) (fun q => base ≤ q))
    (K : KK p l e (rmD (d + 1) MC MS) s m args below meth c Q D cA base tt (mL mid) MC MS Sf (pc + 3) mls (r.toList ++ rest) S1 M1) : W p l e (rmD (d + 1) MC MS) s m args below meth c H locs cells slots Q (F0 m pc ls st0) := by
  refine call_go hr (fun v st₀ t L h0 _ hLo hq => ?_)
  obtain ⟨q1, q2, q3, q4, q5, q6, q7⟩ := hq
  obtain ⟨hP, hS, hM, hSl, h1, h2, h3⟩ := id hH
  have hv : v = r.map (rv (ph base tt)) := Outcome.returned.inj q1
  have hst : (r.toList ++ rest).map (rv (ph base tt)) = v.toList ++ rest.map (rv (ph base tt)) := by
    rw [hv]
    cases r <;> rfl
  have hsz0 : s.heap.size ≤ t.heap.size := by rw [q3]; have := hg.1; omega
  have K1 := K t.heap (locs ++ L) (cells + (S1.length - S.length)) (slots + (tot S1 - tot S)) ls
    ⟨q2, ⟨hsz0, fun q a1 a2 => by
      rw [q4 q (by rw [h0]; exact Nat.lt_of_lt_of_le a1 hS.1) a2, h0]
      exact hS.2.1 q a1 a2, fun q hq => by
      rcases List.mem_append.mp hq with h | h
      · exact hS.2.2 q h
      · exact hLo q h⟩, q5, q7, by have := hg.1; omega, by have := hg.1; omega, by have := hg.2; omega⟩ hL (fun v hv => by
      rcases List.mem_append.mp hv with h | h
      · exact q6 v h
      · exact hrest v h)
  rw [hst] at K1
  exact K1
theorem preP {av : List Vv} (hC : CK D cA base tt s args) (hH : HI D cA base tt s MC MS Sf S M H locs cells slots) (hsz : H.size = base + S.length) : ∀ U : State, U.heap = H → s.WarmedH U.vm → PP D cA base tt av S M (av.map (rv (ph base tt))).toArray U := by
  intro U hU hW
  obtain ⟨hP, hS, -⟩ := hH
  refine ⟨rfl, by rw [hU]; exact hsz, by rw [hU]; exact hP, va_K.moved hW.alike hC.2.1, fun j hj => ⟨?_, ?_⟩, XW.moved hW hC.2.2.2.2⟩
  · rw [hU]
    exact ((hC.2.2.1 j hj).1.moved hW.alike).kept (fun a h1 h2 => hS.2.1 a h1 h2)
  · rw [hU]
    exact ((hC.2.2.1 j hj).2.moved hW.alike).kept (fun a h1 h2 => hS.2.1 a h1 h2)
theorem take_drop_rv {f : Nat → Nat} {st : List Vv} {n : Nat} {v : Vv} {rest : List Vv} (h : st.drop n = v :: rest) : st.map (rv f) = ((st.take n).reverse.map (rv f)).reverse ++ rv f v :: rest.map (rv f) := by
  rw [← List.map_reverse, List.reverse_reverse, ← List.map_cons, ← List.map_append, ← h, List.take_append_drop]
set_option maxHeartbeats 4000000 in
theorem callW {n : Nat} (hA : MetA l n) {mid' : Nat} {av rest : List Vv} {r : Option Vv} (hF : FF p s m meth c mid) (hC : CK D cA base tt s args) (hH : HI D cA base tt s MC MS Sf S M H locs cells slots) (hL : LR (ph base tt) (mL mid) mls ls) (hst : ∀ v ∈ mst, okV v) (ha : act mid pc mls mst S M = some (.inr (.inl (mid', av, rest)))) (hlen : (eLoc av).length ≤ mL mid') (hrun : run n d mid' 0 (entryL mid' av) [] S M = some (r, S1, M1)) (hg1 : Gr S1 Sf)
    (K : KK p l e (rmD (d + 1) MC MS) s m args below meth c Q D cA base tt (mL mid) MC MS Sf (pc + 3) mls (r.toList ++ rest) S1 M1) : W p l e (rmD (d + 1) MC MS) s m args below meth c H locs cells slots Q (F0 m pc ls (mst.map (rv (ph base tt)))) := by
  obtain ⟨hx, hb, hml, hret, hown, hlocks, hname⟩ := hF
  obtain ⟨hP, hS, hM, hSl, h1, h2, h3⟩ := id hH
  have hg := gr_run _ _ _ _ _ _ _ _ _ _ _ hrun
  refine W_size (fun hz => ?_)
  have hsz := hH.size hC.2.2.2.1 hz
  have hfix : CallFix p m c (mB mid) (mL mid) s args gwT (cN (mOwn mid)) := ⟨hx, hb, hml, hown, hC.1⟩
  have hfit : cells + (S1.length - S.length) ≤ (rmD (d + 1) MC MS).cells ∧ slots + (tot S1 - tot S) ≤ (rmD (d + 1) MC MS).slots := by
    show cells + (S1.length - S.length) ≤ MC ∧ slots + (tot S1 - tot S) ≤ MS
    have := hg1.1
    have := hg1.2
    have := hg.1
    have := hg.2
    omega
  have hokt : ∀ k, ∀ v ∈ mst.take k, okV v := fun k v hv => hst v (List.mem_of_mem_take hv)
  have hokd : ∀ k, ∀ v ∈ mst.drop k, okV v := fun k v hv => hst v (List.mem_of_mem_drop hv)
  unfold act at ha
  split at ha
  · next i hi =>
    obtain ⟨len, hd, hlen2, hpi⟩ := ins_spec hi
    rcases act_kind ha with ⟨rfl, ha2⟩ | ⟨rfl, ha2⟩ | ⟨rfl, ha2⟩ | ⟨rfl, ha2⟩ | ⟨x, rfl, ha2⟩ | ⟨x, rfl, ha2⟩ | ⟨x, rfl, ha2⟩
    · exact (nc_i ha2).elim
    · exact (nc_l ha2).elim
    · exact (nc_a ha2).elim
    · exact (nc_v ha2).elim
    · cases len_of hlen2 rfl
      unfold aInvV at ha2
      split at ha2
      · next mi hk =>
        split at ha2
        · next hmi =>
          split at ha2
          · next a rest' hdr =>
            split at ha2
            · next kd nn rf hs =>
              split at ha2
              · next hcc =>
                cases ha2
                obtain ⟨hkd, hcat, hpl⟩ := hcc
                have hpi : x < 1000 := hpi
                have hmm : mid' < 206 := by rcases poolM_ok _ (lk_mem hk) with h | h <;> simp only at h <;> omega
                obtain ⟨f1, f2, f3, f4, f5⟩ := m_facts hmm
                have hw := wM _ (lk_mem hk)
                rw [notNest (nest_1000 _ (lk_mem hk) (Or.inr (Or.inr hmi.2.2))), (key_div hpi).1, (key_div hpi).2] at hw
                have hyy : mYY mid' = mY mid' := by unfold mYY; rw [if_neg (by omega), if_neg (by omega), if_neg (by omega), if_neg (by omega)]
                rw [hyy] at hw
                have hst1 := w_st hmm
                unfold wSt at hst1
                rw [hmi.2.1] at hst1
                have hoki : ∀ v ∈ vR (some a) :: (mst.take (mP mid')).reverse, okV v := ok1 (fun v hv => hokt _ v (List.mem_reverse.mp hv)) trivial
                have hM1 := hA d mid' _ S M r S1 M1 hrun D cA base tt hmm hlen hoki hM hSl
                have hat := world_at (base := base) (f := ph base tt) (cA := cA) (M := M) hs
                have hkd9 : kd < 9 := by
                  rw [hkd]
                  have h9 := f1
                  exact (of_decide_eq_true (all_at mW7 hmm))
                rw [cellE_obj hkd9] at hat
                have hra : rv (ph base tt) (vR (some a)) = .ref (base + a) := by show Value.ref (ph base tt a) = _; rw [ph_lt (S_lt hs hSl).2]
                have hpre := preP (av := vR (some a) :: (mst.take (mP mid')).reverse) hC hH hsz
                rw [List.map_cons, hra] at hpre
                have hrun2 := va_runV (e := e) (below := below) (meth := meth) (locs := locs) (b := base + a) (As := ((mst.take (mP mid')).reverse).map (rv (ph base tt))) (rest := rest.map (rv (ph base tt))) (n := mP mid') (index := x) (C := (mY mid').cls) (g := F0 m pc ls (mst.map (rv (ph base tt)))) hfix hM1
                  ⟨callB_of (mP mid') hC.1 (wsM_good hmm) rfl rfl rfl (hC.1 _ (tb_in (w_ini hmm))) (hC.1 _ (tb_in hw)) ⟨f3, f4, f5⟩ (cells_call hmm), hC.1 _ (tb_in hst1), hC.1 _ (w_sel hmm hmi.2.1 hmi.2.2)⟩
                  ⟨PP.blind, (by rw [f1, ← hkd]; exact va_recv hC.2.1 hP (cls_cl kd hkd9) hat), hpre⟩ rfl (by simp; omega) hL.2.1 (by show mst.map _ = _; rw [take_drop_rv hdr, hra]) (by show 2 * 0 + _ ≤ 8; rw [catS_rv]; omega) hd hfit
                exact afterW hC hH hL (fun v hv => hokd _ v (by rw [hdr]; exact List.mem_cons_of_mem _ hv)) hg hrun2 K
              · cases ha2
            · cases ha2
          · cases ha2
        · cases ha2
      · cases ha2
    · cases len_of hlen2 rfl
      have hpi : x < 1000 := hpi
      unfold aInvS at ha2
      split at ha2
      · next mi hk =>
        split at ha2
        · split at ha2
          · split at ha2
            · split at ha2
              · exact (nr_go ha2).elim
              · cases ha2
            · cases ha2
          · cases ha2
        · split at ha2
          · split at ha2
            · split at ha2
              · exact (nr_go ha2).elim
              · cases ha2
            · cases ha2
          · split at ha2
            · split at ha2
              · split at ha2
                · exact (nr_go ha2).elim
                · cases ha2
              · cases ha2
            · split at ha2
              · next hmi =>
                cases ha2
                have hmm : mid' < 206 := by rcases poolM_ok _ (lk_mem hk) with h | h <;> simp only at h <;> omega
                obtain ⟨f1, f2, f3, f4, f5⟩ := m_facts hmm
                have hw := wM _ (lk_mem hk)
                rw [notNest (nest_1000 _ (lk_mem hk) (Or.inr (Or.inl hmi.2.1))), (key_div hpi).1, (key_div hpi).2] at hw
                have hyy : mYY mid' = mY mid' := by unfold mYY; rw [if_neg (by omega), if_neg (by omega), if_neg (by omega), if_neg (by omega)]
                rw [hyy] at hw
                have hst1 := w_st hmm
                unfold wSt at hst1
                rw [hmi.2.1] at hst1
                have hoki : ∀ v ∈ (mst.take (mP mid')).reverse, okV v := fun v hv => hokt _ v (List.mem_reverse.mp hv)
                have hM1 := hA d mid' _ S M r S1 M1 hrun D cA base tt hmm hlen hoki hM hSl
                have hpre := preP (av := (mst.take (mP mid')).reverse) hC hH hsz
                have hrun2 := va_runS (e := e) (below := below) (meth := meth) (locs := locs) (As := ((mst.take (mP mid')).reverse).map (rv (ph base tt))) (rest := (mst.drop (mP mid')).map (rv (ph base tt))) (n := mP mid') (index := x) (g := F0 m pc ls (mst.map (rv (ph base tt)))) hfix hM1
                  ⟨callB_of (mP mid') hC.1 (wsM_good hmm) rfl rfl rfl (hC.1 _ (tb_in (w_ini hmm))) (hC.1 _ (tb_in hw)) ⟨f3, f4, f5⟩ (cells_call hmm), hC.1 _ (tb_in hst1)⟩
                  ⟨PP.blind, hpre⟩ rfl (by simp; omega) hL.2.1 (by show mst.map _ = _; rw [← List.map_reverse, List.reverse_reverse, ← List.map_append, List.take_append_drop]) (by show 2 * 0 + _ ≤ 8; rw [catS_rv]; omega) hd hfit
                exact afterW hC hH hL (hokd _) hg hrun2 K
              · cases ha2
      · cases ha2
    · cases len_of hlen2 rfl
      have hpi : x < 1000 := hpi
      unfold aInvI at ha2
      split at ha2
      · next mi hk =>
        split at ha2
        · split at ha2
          · split at ha2
            · exact (nr_go ha2).elim
            · cases ha2
          · cases ha2
        · split at ha2
          · next hmi =>
            split at ha2
            · next a rest' hdr =>
              split at ha2
              · next hcat =>
                cases ha2
                have hmm : mid' < 206 := by rcases poolM_ok _ (lk_mem hk) with h | h <;> simp only at h <;> omega
                obtain ⟨f1, f2, f3, f4, f5⟩ := m_facts hmm
                have hw := wM _ (lk_mem hk)
                have hyy : mYY mid' = mY mid' := by unfold mYY; rw [if_neg (by omega), if_neg (by omega), if_neg (by omega), if_neg (by omega)]
                have hst1 := w_st hmm
                unfold wSt at hst1
                rw [hmi.2.1] at hst1
                have hoki : ∀ v ∈ vR (some a) :: (mst.take (mP mid')).reverse, okV v := ok1 (fun v hv => hokt _ v (List.mem_reverse.mp hv)) trivial
                have hM1 := hA d mid' _ S M r S1 M1 hrun D cA base tt hmm hlen hoki hM hSl
                have hpre := preP (av := vR (some a) :: (mst.take (mP mid')).reverse) hC hH hsz
                rw [List.map_cons] at hpre
                have hra : rv (ph base tt) (vR (some a)) = .ref (ph base tt a) := rfl
                rw [hra] at hpre
                have hret0 : mR mid' = none := Option.isNone_iff_eq_none.mp (by have h9 := all_at mW8 hmm; simp only [hmi.2.2.1, decide_true, Bool.not_true, Bool.false_or] at h9; exact h9)
                by_cases hn : isNest (mOwn mid * 1000 + x, mid') = true
                · have hN := nest_ini _ (lk_mem hk) hn
                  have hkey : mOwn mid * 1000 + x = 7018 := by simpa [isNest] using hn
                  have ho7 : mOwn mid = 7 := by omega
                  have hx18 : x = 18 := by omega
                  subst hx18
                  have hm29 : mid' = 29 := nest_29 _ (lk_mem hk) hn
                  subst hm29
                  have hnw : va_Nw (.methodLinkNest (cN (mOwn mid)) 18 (mY 29) "ElbowQueue") s := by rw [ho7]; exact hC.2.2.2.2.2.2.2
                  have hcw := va_cnB (R := rmD (d + 1) MC MS) (s := s) (args := args) (own := cN (mOwn mid)) (host := "ElbowQueue") (index := 18) (y := mY 29) (bytes := mB 29) (maxL := mL 29) (ret := none) (ws := wsM 29) (rm := rmD d (S1.length - S.length) (tot S1 - tot S)) (mP 29) hC.1 (wsM_good hmm) rfl rfl rfl hnw (hC.1 _ (tb_in (w_ini hmm))) ⟨f3, f4, f5⟩ (cells_call hmm)
                  have hrun2 := va_runIN (e := e) (below := below) (meth := meth) (locs := locs) (b := ph base tt a) (As := ((mst.take (mP 29)).reverse).map (rv (ph base tt))) (rest := rest.map (rv (ph base tt))) (n := mP 29) (index := 18) (g := F0 m pc ls (mst.map (rv (ph base tt)))) hfix hM1
                    ⟨hcw, hmi.2.2.1, hC.1 _ (tb_in hst1)⟩
                    ⟨PP.blind, hpre⟩ rfl (by simp; omega) hL.2.1 (by show mst.map _ = _; rw [take_drop_rv hdr, hra]) (by show 2 * 0 + _ ≤ 8; rw [catS_rv]; omega) hd hfit
                  exact afterW hC hH hL (fun v hv => hokd _ v (by rw [hdr]; exact List.mem_cons_of_mem _ hv)) hg hrun2 K
                · have hn2 : isNest (mOwn mid * 1000 + x, mid') = false := by simpa using hn
                  rw [notNest hn2, (key_div hpi).1, (key_div hpi).2, hyy] at hw
                  have hrun2 := va_runI (e := e) (below := below) (meth := meth) (locs := locs) (b := ph base tt a) (As := ((mst.take (mP mid')).reverse).map (rv (ph base tt))) (rest := rest.map (rv (ph base tt))) (n := mP mid') (index := x) (g := F0 m pc ls (mst.map (rv (ph base tt)))) hfix hM1
                    ⟨callB_of (bytes := mB mid') (maxL := mL mid') (ret := none) (ws' := gwT) (mP mid') hC.1 (wsM_good hmm) (by unfold wsM; rw [hret0]) rfl rfl (hC.1 _ (tb_in (w_ini hmm))) (hC.1 _ (tb_in hw)) ⟨f3, f4, f5⟩ (cells_call hmm), hmi.2.2.1, hC.1 _ (tb_in hst1)⟩
                    ⟨PP.blind, hpre⟩ rfl (by simp; omega) hL.2.1 (by show mst.map _ = _; rw [take_drop_rv hdr, hra]) (by show 2 * 0 + _ ≤ 8; rw [catS_rv]; omega) hd hfit
                  exact afterW hC hH hL (fun v hv => hokd _ v (by rw [hdr]; exact List.mem_cons_of_mem _ hv)) hg hrun2 K
              · cases ha2
            · cases ha2
          · cases ha2
      · cases ha2
  · cases ha
end SIMQ
set_option maxHeartbeats 4000000 in
theorem simW {l : Launch} (hmna : MNA l) : ∀ n, SimW l n := by
  intro n
  induction n with
  | zero =>
    intro d mid pc mls mst S M r Sf Mf h
    cases h
  | succ n ih =>
    intro d mid pc mls mst S M r Sf Mf h D cA base tt p e s m args below meth c MC MS H locs cells slots ls hF hC hH hL hst
    unfold run at h
    split at h
    · cases h
    · next pc1 ls1 st1 S1 M1 ha =>
      have hg := gr_run _ _ _ _ _ _ _ _ _ _ _ h
      exact stepW hmna hF hC hH hL hst ha hg (fun H1 locs1 cells1 slots1 ls1 hH1 hL1 hst1 => ih d mid pc1 _ _ S1 M1 r Sf Mf h D cA base tt p e s m args below meth c MC MS H1 locs1 cells1 slots1 ls1 hF hC hH1 hL1 hst1)
    · next mid' av rest ha =>
      split at h
      · cases h
      · next d' =>
        split at h
        · next hlen =>
          split at h
          · cases h
          · next r1 S1 M1 hrun =>
            have hg := gr_run _ _ _ _ _ _ _ _ _ _ _ h
            exact callW (met_of_sim ih) hF hC hH hL hst ha hlen hrun hg (fun H1 locs1 cells1 slots1 ls1 hH1 hL1 hst1 => ih (d' + 1) mid (pc + 3) _ _ S1 M1 r Sf Mf h D cA base tt p e s m args below meth c MC MS H1 locs1 cells1 slots1 ls1 hF hC hH1 hL1 hst1)
        · cases h
    · next r1 ha =>
      cases h
      exact retW hF hC hH hst ha
/-- a method's contract, out of its run in the little machine -/
theorem metA {l : Launch} (hmna : MNA l) (n : Nat) : MetA l n := met_of_sim (simW hmna n)
