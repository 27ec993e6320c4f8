theorem aoa_moved {u U : State} (hvm : u.vm.Alike U.vm) (h : va_Nw (.arrayOver (.array .int)) u) : va_Nw (.arrayOver (.array .int)) U := by
  unfold va_Nw Cond.before Cond.holds at h ⊢
  simp only [Cond.value, beq_iff_eq] at h ⊢
  cases hc : u.vm.findClass (FieldType.array .int).toString with
  | none => simp [hc] at h
  | some comp =>
    simp only [hc, Option.bind_some, Option.bind_eq_some_iff, Option.map_eq_some_iff] at h
    obtain ⟨c, hi, k, hk, hb⟩ := h
    obtain ⟨k', hk', he⟩ := hvm.2.2 _ _ hk
    have hi2 : (U.vm.classes.findIdx? fun (x : Class) => match x.kind with | .array component _ => component == comp | _ => false) = some c := by
      have e1 := va_idx_bare U.vm comp
      have e2 := va_idx_bare u.vm comp
      have e3 : U.vm.bare = u.vm.bare := by first | exact hvm.bare_eq | exact hvm.bare_eq.symm
      rw [e3] at e1
      exact (e1.symm.trans e2).trans hi
    have hkind : k'.kind = k.kind := by rw [he]
    have f1 : U.vm.findClass (FieldType.array .int).toString = some comp := by rw [hvm.findClass]; exact hc
    have f2 : ∀ n, U.vm.findClass n = u.vm.findClass n := fun n => by rw [hvm.findClass]
    rw [f1]
    simp only [Option.bind_some, Option.bind_eq_some_iff, Option.map_eq_some_iff]
    exact ⟨c, hi2, k', hk', by rw [hkind]; simp only [f2]; exact hb⟩
theorem XW.moved {u U : State} (hW : u.WarmedH U.vm) (h : XW u) : XW U := ⟨va_AO.moved hW.alike h.1, va_AO.moved hW.alike h.2.1, aoa_moved hW.alike h.2.2.1, va_Nw.warmM hW h.2.2.2⟩
section NI
variable {pc mid : Nat} {mls : Lv} {mst : List Vv} {S : List Sh} {M : Mem} {k : Nat} {r : Option Vv} {q : Nat × List Vv × List Vv}
theorem nv_ret (h : aInvV k mst S = some (.inr (.inr r))) : False := by
  unfold aInvV at h
  split at h
  · split at h
    · split at h
      · split at h
        · split at h <;> cases h
        · cases h
      · cases h
    · cases h
  · cases h
theorem ns_ret (h : aInvS k pc mls mst S M = some (.inr (.inr r))) : False := by
  unfold aInvS at h
  split at h
  · split at h
    · split at h
      · split at h
        · split at h
          · exact nr_go h
          · cases h
        · cases h
      · cases h
    · split at h
      · split at h
        · split at h
          · exact nr_go h
          · cases h
        · cases h
      · split at h
        · split at h
          · split at h
            · exact nr_go h
            · cases h
          · cases h
        · split at h <;> cases h
  · cases h
theorem ni_ret (h : aInvI k pc mls mst S M = some (.inr (.inr r))) : False := by
  unfold aInvI at h
  split at h
  · split at h
    · split at h
      · split at h
        · exact nr_go h
        · cases h
      · cases h
    · split at h
      · split at h
        · split at h <;> cases h
        · cases h
      · cases h
  · cases h
theorem nc_i {rt : Option FieldType} (h : aIret rt mst = some (.inr (.inl q))) : False := by
  unfold aIret at h
  split at h
  · split at h
    · cases h
    · split at h <;> cases h
    · cases h
  · cases h
theorem nc_l {rt : Option FieldType} (h : aLret rt mst = some (.inr (.inl q))) : False := by
  unfold aLret at h; split at h <;> first | cases h | (split at h <;> cases h)
theorem nc_a {rt : Option FieldType} (h : aAret rt mst = some (.inr (.inl q))) : False := by
  unfold aAret at h; split at h <;> first | cases h | (split at h <;> cases h)
theorem nc_v {rt : Option FieldType} (h : aVret rt mst = some (.inr (.inl q))) : False := by
  unfold aVret at h; split at h <;> cases h
/-- an act that is no step is a return's, or a call's -/
theorem act_kind {own : Nat} {ini : Bool} {rt : Option FieldType} {i : Instr} {z : (Nat × List Vv × List Vv) ⊕ Option Vv} (h : actI own ini rt i pc mls mst S M = some (.inr z)) :
    (i = .ireturn ∧ aIret rt mst = some (.inr z)) ∨ (i = .lreturn ∧ aLret rt mst = some (.inr z)) ∨ (i = .areturn ∧ aAret rt mst = some (.inr z)) ∨ (i = .return_ ∧ aVret rt mst = some (.inr z)) ∨
    (∃ x, i = .invokevirtual x ∧ aInvV (own * 1000 + x) mst S = some (.inr z)) ∨ (∃ x, i = .invokestatic x ∧ aInvS (own * 1000 + x) pc mls mst S M = some (.inr z)) ∨ (∃ x, i = .invokespecial x ∧ aInvI (own * 1000 + x) pc mls mst S M = some (.inr z)) := by
  unfold actI at h
  split at h
  all_goals first
    | exact (nr_pI h).elim
    | exact (nr_go h).elim
    | exact (nr_bI h).elim
    | exact (nr_bL h).elim
    | exact (nr_uI h).elim
    | exact (nr_ldI h).elim
    | exact (nr_ldL h).elim
    | exact (nr_ldA h).elim
    | exact (nr_stI h).elim
    | exact (nr_stL h).elim
    | exact (nr_stA h).elim
    | exact (nr_c0 h).elim
    | exact (nr_cI h).elim
    | exact (nr_jmp h).elim
    | exact (nr_ldc h).elim
    | exact (nr_ldc2 h).elim
    | exact (nr_inc h).elim
    | exact (nr_i2l h).elim
    | exact (nr_l2i h).elim
    | exact (nr_lcmp h).elim
    | exact (nr_dup h).elim
    | exact (nr_dup2 h).elim
    | exact (nr_tab h).elim
    | exact (nr_look h).elim
    | exact (nr_getf h).elim
    | exact (nr_putf h).elim
    | exact (nr_gets h).elim
    | exact (nr_iald h).elim
    | exact (nr_iast h).elim
    | exact (nr_bald h).elim
    | exact (nr_bast h).elim
    | exact (nr_aald h).elim
    | exact (nr_aast h).elim
    | exact (nr_alen h).elim
    | exact (nr_newa h).elim
    | exact (nr_newq h).elim
    | exact (nr_newm h).elim
    | exact (nr_newO h).elim
    | exact Or.inl ⟨rfl, h⟩
    | exact Or.inr (Or.inl ⟨rfl, h⟩)
    | exact Or.inr (Or.inr (Or.inl ⟨rfl, h⟩))
    | exact Or.inr (Or.inr (Or.inr (Or.inl ⟨rfl, h⟩)))
    | exact Or.inr (Or.inr (Or.inr (Or.inr (Or.inl ⟨_, rfl, h⟩))))
    | exact Or.inr (Or.inr (Or.inr (Or.inr (Or.inr (Or.inl ⟨_, rfl, h⟩)))))
    | exact Or.inr (Or.inr (Or.inr (Or.inr (Or.inr (Or.inr ⟨_, rfl, h⟩)))))
    | (exfalso; split at h <;> first | exact nr_go h | cases h)
    | cases h
end NI
section SIMR
variable {p : Program} {l : Launch} {e : Env} {s : State} {m : MethodId} {args : Array Value} {below : List Frame} {meth : Method} {c : Code} {H : Heap} {locs : List Loc} {cells slots : Nat}
variable {pc : Nat} {ls : Array Slot}
variable {D : va_G} {cA : Nat → ClassId} {base : Nat} {tt : Nat → Nat} {MC MS : Nat} {S Sf : List Sh} {M Mf : Mem} {mls : Lv} {mst : List Vv} {mid d : Nat}
theorem retW {r : Option Vv} (hF : FF p s m meth c mid) (hC : CK D cA base tt s args) (hH : HI D cA base tt s MC MS S S M H locs cells slots) (hst : ∀ v ∈ mst, okV v) (ha : act mid pc mls mst S M = some (.inr (.inr r))) :
    W p l e (rmD d MC MS) s m args below meth c H locs cells slots (MQ below (QQ D cA base tt r S M) args s MC MS (fun q => base ≤ q)) (F0 m pc ls (mst.map (rv (ph base tt)))) := by
  obtain ⟨hx, hb, hml, hret, hown, hlocks, hname⟩ := hF
  obtain ⟨hP, hS, hM, hSl, h1, h2, h3⟩ := id hH
  have hc1 : cells = MC := by omega
  have hc2 : slots = MS := by omega
  subst hc1
  subst hc2
  refine W_size (fun hz => ?_)
  have hsz := hH.size hC.2.2.2.1 hz
  have hq : ∀ (r : Option Vv), okR r → ∀ t : State, t.heap = H → s.WarmedH t.vm → QQ D cA base tt r S M args s (.returned (r.map (rv (ph base tt)))) t := fun r hr t ht _ => ⟨rfl, by rw [ht]; exact hP, by rw [ht]; exact hsz, fun q q1 q2 => by rw [ht]; exact hS.2.1 q q1 q2, hM, hr, hSl⟩
  have hf : ∀ q ∈ locs, base ≤ q.base := hS.2.2
  have hoks : ∀ v : Vv, (∀ w ∈ [v], okV w) → okR (some v) := fun v h w hw => h w hw
  unfold act at ha
  split at ha
  · next i hi =>
    obtain ⟨len, hd, hlen, hpi⟩ := ins_spec hi
    rcases act_kind ha with ⟨rfl, ha2⟩ | ⟨rfl, ha2⟩ | ⟨rfl, ha2⟩ | ⟨rfl, ha2⟩ | ⟨x, rfl, ha2⟩ | ⟨x, rfl, ha2⟩ | ⟨x, rfl, ha2⟩
    all_goals clear ha
    · cases len_of hlen rfl
      unfold aIret at ha2
      split at ha2
      · next x =>
        split at ha2
        · next hrt =>
          cases ha2
          exact W.iret (v := Int32.ofInt x) hx hb (hret.trans hrt) (hq (some (vI x)) (hoks _ hst)) hf hd hlocks
        · next hrt =>
          split at ha2
          · next hz01 =>
            cases ha2
            exact W.zret (v := Int32.ofInt x) (ty := .boolean) hx hb (hret.trans hrt) (nar_z hz01).1 (hq (some (vI x)) (hoks _ hst)) hf hd hlocks
          · cases ha2
        · cases ha2
      · cases ha2
    · cases len_of hlen rfl
      unfold aLret at ha2
      split at ha2
      · next x =>
        split at ha2
        · next hrt =>
          cases ha2
          exact W.lret (v := Int64.ofInt x) hx hb (hret.trans hrt) (hq (some (vL x)) (hoks _ hst)) hf hd hlocks
        · cases ha2
      · cases ha2
    · cases len_of hlen rfl
      unfold aAret at ha2
      split at ha2
      · next x =>
        split at ha2
        · next C hrt =>
          cases ha2
          exact W.aret (v := .ref (ph base tt x)) hx hb (hret.trans hrt) (Or.inl ⟨_, rfl⟩) (Or.inr ⟨_, rfl⟩) (hq (some (vR (some x))) (hoks _ hst)) hf hd hlocks
        · cases ha2
      · cases ha2
    · cases len_of hlen rfl
      unfold aVret at ha2
      split at ha2
      · next hrt =>
        cases ha2
        exact W.vret hx hb (hret.trans hrt) (hq none (fun v hv => by cases hv)) hf hd hlocks
      · cases ha2
    · exact (nv_ret ha2).elim
    · exact (ns_ret ha2).elim
    · exact (ni_ret ha2).elim
  · cases ha
end SIMR
