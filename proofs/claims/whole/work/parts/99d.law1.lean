/-! THE LAW: its calls -/
set_option maxRecDepth 100000 in
theorem tot_SS : tot SS = 9790 := by decide +kernel
section LAW
variable {p : Program} {l : Launch} {e : Env} {s : State} {m : MethodId} {b : Nat} {below : List Frame} {meth : Method} {c : Code} {H : Heap} {locs : List Loc} {Q : State → Prop}
variable {pc : Nat} {ls : Array Slot} {D : va_G} {cA : Nat → ClassId} {tt : Nat → Nat} {S S1 : List Sh} {M M1 : Mem}
/-- the law's heap: its two objects' cells, all made since its start -/
def LIS (D : va_G) (cA : Nat → ClassId) (tt : Nat → Nat) (s : State) (S : List Sh) (M : Mem) (H : Heap) (locs : List Loc) : Prop := HI D cA s.heap.size tt s 289 (tot SS) SS S M H locs S.length (tot S)
theorem lw_room {d k x y : Nat} (hk : k < 206) (hd : d ≤ 100) : (rmD d x y).frames + 1 ≤ room_1.frames ∧ 8 + (mL k + 11) + (rmD d x y).locals ≤ room_1.locals := by
  have h := (m_facts hk).2.1
  constructor
  · show d + 1 + 1 ≤ 2048
    omega
  · show 8 + (mL k + 11) + (40 * d + 60) ≤ 84000
    omega
theorem LIS.z (D : va_G) (cA : Nat → ClassId) (tt : Nat → Nat) (s : State) : LIS D cA tt s [] (fun _ _ => 0) s.heap [] := by
  refine ⟨fun k q h => by simp [world] at h, va_S.rf, fun a i => (show inR 0 by decide), by decide, rfl, ?_, Nat.add_comm _ _⟩
  rw [SS_len]
  rfl
theorem lawN {ci idx : Nat} {rest : List Value} (hx : p.tables.exec = Jvm.exec) (hb : c.code = code) (hown : s.vm.findClass R_law = some m.cls) (hC : CK D cA s.heap.size tt s #[Value.ref b]) (hH : LIS D cA tt s S M H locs) (hci : ci < 9) (hw : Cond.classLink R_law idx (cN ci) ∈ tables_1) (hg : S.length + 1 ≤ 289 ∧ tot S + fnum ci ≤ tot SS) (hd : decode code pc = .ok (.new idx, 3))
    (K : ∀ H1, LIS D cA tt s (S ++ [(ci, fnum ci, List.replicate (fnum ci) none)]) (mzs M S.length) H1 locs → W p l e room_1 s m #[Value.ref b] below meth c H1 locs (S ++ [(ci, fnum ci, List.replicate (fnum ci) none)]).length (tot (S ++ [(ci, fnum ci, List.replicate (fnum ci) none)])) Q (F0 m (pc + 3) ls (.ref (s.heap.size + S.length) :: rest))) : W p l e room_1 s m #[Value.ref b] below meth c H locs S.length (tot S) Q (F0 m pc ls rest) := by
  obtain ⟨hP, hS, hM, hSl, h1, h2, h3⟩ := id hH
  have hts := tot_SS
  have ht1 : tot [(ci, fnum ci, List.replicate (fnum ci) (none : Option Nat))] = fnum ci := by simp [tot]
  have hl : S.length < 1000000 := by omega
  refine W_size (fun hz => ?_)
  have hsz := HI.size hH hC.2.2.2.1 hz
  have hKn := hC.2.1.1 ci _ (cls_cl ci hci)
  refine W.newcK hx hb hown (hC.1 _ (tb_in hw)) (hC.1 _ (tb_in (cls_inst ci hci).1)) (hC.1 _ (tb_in (cls_inst ci hci).2)) rfl hd (by show S.length + 1 ≤ 600000; omega) (by show tot S + fnum ci ≤ 7302250; omega) hKn.2.1 hsz (fun H1 kC hkC e1 z1 o1 => ?_)
  have K1 := K H1 (by
    have q := HI.push (h := (ci, fnum ci, List.replicate (fnum ci) none)) (N := mzs M S.length) (H1 := H1) hH hl hC.2.2.2.1 hsz (fun q hq => o1 q (by omega)) (by omega) (by
      rw [cellE_obj hci]
      refine ⟨_, cls_cl ci hci, (u_born (Cty ci) hC.1 (cls_in hci) hKn hkC e1 (cls_ty ci hci)).to (fun j hj => ?_)⟩
      obtain ⟨t0, t1, t2, t3⟩ := cls_fty ci hci j hj
      unfold vp_V
      rw [List.getD_eq_getElem?_getD, List.getElem?_map, List.getElem?_range hj]
      show defaultValue (Cty ci j) = slotV _ _ _ _ _ j
      unfold slotV
      rcases (show fty ci j = 0 ∨ fty ci j = 1 ∨ fty ci j = 2 by omega) with q | q | q
      · rw [if_neg (by omega), t0 q, mzs_self]; rfl
      · rw [if_pos q]
        have h9 : (List.replicate (fnum ci) (none : Option Nat)).getD j none = none := by rw [List.getD_eq_getElem?_getD, List.getElem?_replicate]; split <;> rfl
        rw [h9]
        have h8 := t1 q
        revert h8
        cases Cty ci j <;> intro h8 <;> first | rfl | cases h8
      · rw [if_neg (by omega), t2 q, mzs_self]; rfl) (fun b hb2 i => mzs_lt hb2 i) (mzs_R hM)
    unfold LIS
    rw [tot_app, ht1, List.length_append]
    exact q)
  rw [tot_app, ht1, List.length_append] at K1
  exact K1
theorem lawI {n d mid' a idx : Nat} {rest : List Value} (hx : p.tables.exec = Jvm.exec) (hb : c.code = code) (hml : c.maxLocals = 4) (hown : s.vm.findClass R_law = some m.cls) (hC : CK D cA s.heap.size tt s #[Value.ref b]) (hH : LIS D cA tt s S M H locs) (hls : ls.size = 4)
    (hrun : run n d mid' 0 (entryL mid' [vR (some a)]) [] S M = some (none, S1, M1)) (hmm : mid' < 206) (hms : mS mid' = false) (hmn : (mY mid').name = "<init>") (hmp : mP mid' = 0) (hret0 : mR mid' = none) (ha : a < 1000000) (hw : Cond.methodLink R_law idx (mY mid') ∈ tables_1) (hd : d ≤ 100) (hlen : (eLoc [vR (some a)]).length ≤ mL mid') (hdg : decode code pc = .ok (.invokespecial idx, 3)) (hcat : (rest.map fun v => v.category).sum ≤ 8) (hS1 : S1.length ≤ 289 ∧ tot S1 ≤ tot SS)
    (K : ∀ H1 locs1, LIS D cA tt s S1 M1 H1 locs1 → W p l e room_1 s m #[Value.ref b] below meth c H1 locs1 S1.length (tot S1) Q (F0 m (pc + 3) ls rest)) : W p l e room_1 s m #[Value.ref b] below meth c H locs S.length (tot S) Q (F0 m pc ls (.ref (s.heap.size + a) :: rest)) := by
  obtain ⟨hP, hS, hM, hSl, h1, h2, h3⟩ := id hH
  have hts := tot_SS
  have hg := gr_run _ _ _ _ _ _ _ _ _ _ _ hrun
  have hg1 := hg.1
  have hg2 := hg.2
  refine W_size (fun hz => ?_)
  have hsz := HI.size hH hC.2.2.2.1 hz
  have hfix : CallFix p m c code 4 s #[Value.ref b] gwT R_law := ⟨hx, hb, hml, hown, hC.1⟩
  obtain ⟨f1, f2, f3, f4, f5⟩ := m_facts hmm
  have hst1 := w_st hmm
  unfold wSt at hst1
  rw [hms] at hst1
  have hoki : ∀ v ∈ [vR (some a)], okV v := fun v hv => by rw [List.mem_singleton.mp hv]; trivial
  have hM1 := metA (mna l) n d mid' _ S M none S1 M1 hrun D cA s.heap.size tt hmm hlen hoki hM hSl
  have hpre := preP (av := [vR (some a)]) hC hH hsz
  have hra : rv (ph s.heap.size tt) (vR (some a)) = .ref (s.heap.size + a) := by show Value.ref (ph s.heap.size tt a) = _; rw [ph_lt ha]
  rw [List.map_cons, hra] at hpre
  have hrun2 := va_runI (e := e) (below := below) (meth := meth) (locs := locs) (b := s.heap.size + a) (As := []) (rest := rest) (n := mP mid') (index := idx) (g := F0 m pc ls (.ref (s.heap.size + a) :: rest)) hfix hM1
    ⟨callB_of (bytes := mB mid') (maxL := mL mid') (ret := none) (ws' := gwT) (mP mid') hC.1 (wsM_good hmm) (by unfold wsM; rw [hret0]) rfl rfl (hC.1 _ (tb_in (w_ini hmm))) (hC.1 _ (tb_in hw)) ⟨f3, f4, f5⟩ (lw_room hmm hd), hmn, hC.1 _ (tb_in hst1)⟩
    ⟨PP.blind, hpre⟩ rfl (by rw [hmp]; rfl) hls rfl (by show 2 * 0 + _ ≤ 8; omega) hdg ⟨by show S.length + (S1.length - S.length) ≤ 600000; omega, by show tot S + (tot S1 - tot S) ≤ 7302250; omega⟩
  refine call_go hrun2 (fun v st₀ t L h0 _ hLo hq => ?_)
  obtain ⟨q1, q2, q3, q4, q5, q6, q7⟩ := hq
  have hv : v = none := Outcome.returned.inj q1
  subst hv
  have K1 := K t.heap (locs ++ L) (by
    refine ⟨q2, ⟨by rw [q3]; omega, fun q a1 a2 => by
      rw [q4 q (by rw [h0]; exact Nat.lt_of_lt_of_le a1 hS.1) a2, h0]
      exact hS.2.1 q a1 a2, fun q hq => by
      rcases List.mem_append.mp hq with h | h
      · exact hS.2.2 q h
      · exact hLo q h⟩, q5, q7, rfl, by rw [SS_len]; omega, by omega⟩)
  rw [show S1.length = S.length + (S1.length - S.length) by omega, show tot S1 = tot S + (tot S1 - tot S) by omega] at K1
  exact K1
theorem lawV {n d mid' a idx nn : Nat} {rf : List (Option Nat)} {av : List Vv} {rest : List Value} {z : Int} (hx : p.tables.exec = Jvm.exec) (hb : c.code = code) (hml : c.maxLocals = 4) (hown : s.vm.findClass R_law = some m.cls) (hC : CK D cA s.heap.size tt s #[Value.ref b]) (hH : LIS D cA tt s SS M H locs) (hls : ls.size = 4)
    (hrun : run n d mid' 0 (entryL mid' (vR (some a) :: av)) [] SS M = some (some (vI z), SS, M1)) (hmm : mid' < 206) (hms : mS mid' = false) (hmn : (mY mid').name ≠ "<init>") (hmp : av.length = mP mid') (hsa : SS[a]? = some (mOwn mid', nn, rf)) (hw : Cond.methodLink R_law idx (mY mid') ∈ tables_1) (hd : d ≤ 100) (hlen : (eLoc (vR (some a) :: av)).length ≤ mL mid') (hok : ∀ v ∈ av, okV v) (hdg : decode code pc = .ok (.invokevirtual idx, 3)) (hcat : (rest.map fun v => v.category).sum ≤ 8)
    (K : ∀ H1 locs1, LIS D cA tt s SS M1 H1 locs1 → inR z → W p l e room_1 s m #[Value.ref b] below meth c H1 locs1 SS.length (tot SS) Q (F0 m (pc + 3) ls (.int (Int32.ofInt z) :: rest))) : W p l e room_1 s m #[Value.ref b] below meth c H locs SS.length (tot SS) Q (F0 m pc ls ((av.map (rv (ph s.heap.size tt))).reverse ++ .ref (s.heap.size + a) :: rest)) := by
  obtain ⟨hP, hS, hM, hSl, h1, h2, h3⟩ := id hH
  have hts := tot_SS
  have hSS := SS_len
  refine W_size (fun hz => ?_)
  have hsz := HI.size hH hC.2.2.2.1 hz
  have hfix : CallFix p m c code 4 s #[Value.ref b] gwT R_law := ⟨hx, hb, hml, hown, hC.1⟩
  obtain ⟨f1, f2, f3, f4, f5⟩ := m_facts hmm
  have hst1 := w_st hmm
  unfold wSt at hst1
  rw [hms] at hst1
  have hoki : ∀ v ∈ vR (some a) :: av, okV v := ok1 hok trivial
  have hM1 := metA (mna l) n d mid' _ SS M _ SS M1 hrun D cA s.heap.size tt hmm hlen hoki hM hSl
  have hat := world_at (base := s.heap.size) (f := ph s.heap.size tt) (cA := cA) (M := M) hsa
  have hkd9 : mOwn mid' < 9 := of_decide_eq_true (all_at mW7 hmm)
  rw [cellE_obj hkd9] at hat
  have hra : rv (ph s.heap.size tt) (vR (some a)) = .ref (s.heap.size + a) := by show Value.ref (ph s.heap.size tt a) = _; rw [ph_lt (S_lt hsa hSl).2]
  have hpre := preP (av := vR (some a) :: av) hC hH hsz
  rw [List.map_cons, hra] at hpre
  have hrun2 := va_runV (e := e) (below := below) (meth := meth) (locs := locs) (b := s.heap.size + a) (As := av.map (rv (ph s.heap.size tt))) (rest := rest) (n := mP mid') (index := idx) (C := (mY mid').cls) (g := F0 m pc ls ((av.map (rv (ph s.heap.size tt))).reverse ++ .ref (s.heap.size + a) :: rest)) hfix hM1
    ⟨callB_of (mP mid') hC.1 (wsM_good hmm) rfl rfl rfl (hC.1 _ (tb_in (w_ini hmm))) (hC.1 _ (tb_in hw)) ⟨f3, f4, f5⟩ (lw_room hmm hd), hC.1 _ (tb_in hst1), hC.1 _ (w_sel hmm hms hmn)⟩
    ⟨PP.blind, (by rw [f1]; exact va_recv hC.2.1 hP (cls_cl _ hkd9) hat), hpre⟩ rfl (by rw [List.length_map]; exact hmp) hls rfl (by show 2 * 0 + _ ≤ 8; omega) hdg ⟨by show SS.length + (SS.length - SS.length) ≤ 600000; omega, by show tot SS + (tot SS - tot SS) ≤ 7302250; omega⟩
  refine call_go hrun2 (fun v st₀ t L h0 _ hLo hq => ?_)
  obtain ⟨q1, q2, q3, q4, q5, q6, q7⟩ := hq
  have hv : v = some (.int (Int32.ofInt z)) := Outcome.returned.inj q1
  subst hv
  have K1 := K t.heap (locs ++ L) (by
    refine ⟨q2, ⟨by rw [q3]; omega, fun q a1 a2 => by
      rw [q4 q (by rw [h0]; exact Nat.lt_of_lt_of_le a1 hS.1) a2, h0]
      exact hS.2.1 q a1 a2, fun q hq => by
      rcases List.mem_append.mp hq with h | h
      · exact hS.2.2 q h
      · exact hLo q h⟩, q5, q7, rfl, h2, h3⟩) (q6 (vI z) (List.mem_singleton.mpr rfl))
  rw [Nat.sub_self, Nat.sub_self, Nat.add_zero, Nat.add_zero]
  exact K1
end LAW
