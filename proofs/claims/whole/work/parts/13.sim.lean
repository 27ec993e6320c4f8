/-- the frame's side: what a method's own frame is -/
def FF (p : Program) (s : State) (m : MethodId) (meth : Method) (c : Code) (mid : Nat) : Prop := p.tables.exec = Jvm.exec ∧ c.code = mB mid ∧ c.maxLocals = mL mid ∧ meth.sig.returnType = mR mid ∧ s.vm.findClass (cN (mOwn mid)) = some m.cls ∧ meth.locks = false ∧ meth.name = (mY mid).name
def rmD (d MC MS : Nat) : Room := { frames := d + 1, cells := MC, slots := MS, locals := 40 * d + 60 }
/-- an array of arrays: proved over the whole library, in the last part -/
def MNA (l : Launch) : Prop := ∀ {p : Program} {e : Env} {R : Room} {s : State} {m : MethodId} {args : Array Value} {below : List Frame} {meth : Method} {c : Code} {H : Heap} {locs : List Loc} {cells slots : Nat} {Q : State → Prop}
  {cc : ByteArray} {pc : Nat} {ls : Array Slot} {D : va_G} {cA : Nat → ClassId} {base : Nat} {tt : Nat → Nat} {nL MC MS : Nat} {Sf S S' : List Sh} {M M' : Mem} {mls mls' : Lv} {mst mst' : List Vv} {pc' own idx : Nat},
  p.tables.exec = Jvm.exec → c.code = cc → CK D cA base tt s args → s.vm.findClass (cN own) = some m.cls → idx < 1000 → (S'.length ≤ Sf.length ∧ tot S' ≤ tot Sf) → R.cells = MC → R.slots = MS → HI D cA base tt s MC MS Sf S M H locs cells slots → LR (ph base tt) nL mls ls → (∀ v ∈ mst, okV v) →
  decode cc pc = .ok (.multianewarray idx 2, 4) → aNewm (own * 1000 + idx) pc mls mst S M = some (.inl (pc', mls', mst', S', M')) → KK p l e R s m args below meth c Q D cA base tt nL MC MS Sf pc' mls' mst' S' M' → W p l e R s m args below meth c H locs cells slots Q (F0 m pc ls (mst.map (rv (ph base tt))))
theorem ins_spec {mid pc : Nat} {i : Instr} (h : ins mid pc = some i) : ∃ len, decode (mB mid) pc = .ok (i, len) ∧ (len = ilen i ∨ isSw i = true) ∧ pidx i < 1000 := by
  unfold ins at h
  split at h
  · next j len hd =>
    split at h
    · next hc =>
      cases h
      exact ⟨len, hd, hc.1, hc.2⟩
    · cases h
  · cases h
section SIMS
variable {p : Program} {l : Launch} {e : Env} {s : State} {m : MethodId} {args : Array Value} {below : List Frame} {meth : Method} {c : Code} {H : Heap} {locs : List Loc} {cells slots : Nat} {Q : State → Prop}
variable {pc : Nat} {ls : Array Slot}
variable {D : va_G} {cA : Nat → ClassId} {base : Nat} {tt : Nat → Nat} {nL MC MS : Nat} {Sf S S' : List Sh} {M M' : Mem} {mls mls' : Lv} {mst mst' : List Vv} {pc' mid d : Nat}
theorem len_of {i : Instr} {len : Nat} (h : len = ilen i ∨ isSw i = true) (hs : isSw i = false) : len = ilen i := by
  rcases h with h | h
  · exact h
  · rw [hs] at h; cases h
set_option maxHeartbeats 4000000 in
theorem stepW (hmna : MNA l) (hF : FF p s m meth c mid) (hC : CK D cA base tt s args) (hH : HI D cA base tt s MC MS Sf S M H locs cells slots) (hL : LR (ph base tt) (mL mid) mls ls) (hst : ∀ v ∈ mst, okV v) (ha : act mid pc mls mst S M = some (.inl (pc', mls', mst', S', M'))) (hg : S'.length ≤ Sf.length ∧ tot S' ≤ tot Sf)
    (K : KK p l e (rmD d MC MS) s m args below meth c Q D cA base tt (mL mid) MC MS Sf pc' mls' mst' S' M') : W p l e (rmD d MC MS) s m args below meth c H locs cells slots Q (F0 m pc ls (mst.map (rv (ph base tt)))) := by
  obtain ⟨hx, hb, hml, hret, hown, hlocks, hname⟩ := hF
  unfold act at ha
  split at ha
  · next i hi =>
    obtain ⟨len, hd, hlen, hpi⟩ := ins_spec hi
    have hini : decide ((mY mid).name = "<init>") = true → meth.name = "<init>" := fun q => hname.trans (of_decide_eq_true q)
    have hRf : 1 ≤ (rmD d MC MS).frames := Nat.le_add_left 1 d
    have hRl : 40 ≤ (rmD d MC MS).locals := by show 40 ≤ 40 * d + 60; omega
    cases i with
    | iconst n => cases len_of hlen rfl; exact sp_iconst hx hb hH hL hst hd ha K
    | bipush n => cases len_of hlen rfl; exact sp_bipush hx hb hH hL hst hd ha K
    | sipush n => cases len_of hlen rfl; exact sp_sipush hx hb hH hL hst hd ha K
    | lconst n => cases len_of hlen rfl; exact sp_lconst hx hb hH hL hst hd ha K
    | ldc k => cases len_of hlen rfl; exact sh_ldc hx hb hC hown hpi hH hL hst hd ha K
    | ldc_w k => cases len_of hlen rfl; exact sh_ldcw hx hb hC hown hpi hH hL hst hd ha K
    | ldc2_w k => cases len_of hlen rfl; exact sh_ldc2 hx hb hC hown hpi hH hL hst hd ha K
    | iload_n k => cases len_of hlen rfl; exact sp_ldI hx hb hH hL hst (Or.inr ⟨k, rfl, hd, rfl⟩) ha K
    | iload k => cases len_of hlen rfl; exact sp_ldI hx hb hH hL hst (Or.inl ⟨hd, rfl⟩) ha K
    | lload_n k => cases len_of hlen rfl; exact sp_ldL hx hb hH hL hst (Or.inr ⟨k, rfl, hd, rfl⟩) ha K
    | lload k => cases len_of hlen rfl; exact sp_ldL hx hb hH hL hst (Or.inl ⟨hd, rfl⟩) ha K
    | aload_n k => cases len_of hlen rfl; exact sp_ldA hx hb hH hL hst (Or.inr ⟨k, rfl, hd, rfl⟩) ha K
    | aload k => cases len_of hlen rfl; exact sp_ldA hx hb hH hL hst (Or.inl ⟨hd, rfl⟩) ha K
    | istore_n k => cases len_of hlen rfl; exact sp_stI hx hb hH hL hst (Or.inr ⟨k, rfl, hd, rfl⟩) ha K
    | istore k => cases len_of hlen rfl; exact sp_stI hx hb hH hL hst (Or.inl ⟨hd, rfl⟩) ha K
    | lstore_n k => cases len_of hlen rfl; exact sp_stL hx hb hH hL hst (Or.inr ⟨k, rfl, hd, rfl⟩) ha K
    | lstore k => cases len_of hlen rfl; exact sp_stL hx hb hH hL hst (Or.inl ⟨hd, rfl⟩) ha K
    | astore_n k => cases len_of hlen rfl; exact sp_stA hx hb hH hL hst (Or.inr ⟨k, rfl, hd, rfl⟩) ha K
    | astore k => cases len_of hlen rfl; exact sp_stA hx hb hH hL hst (Or.inl ⟨hd, rfl⟩) ha K
    | iinc k n => cases len_of hlen rfl; exact sp_iinc hx hb hH hL hst hd ha K
    | iadd => cases len_of hlen rfl; exact sp_iadd hx hb hH hL hst hd ha K
    | isub => cases len_of hlen rfl; exact sp_isub hx hb hH hL hst hd ha K
    | imul => cases len_of hlen rfl; exact sp_imul hx hb hH hL hst hd ha K
    | idiv => cases len_of hlen rfl; exact sp_idiv hx hb hH hL hst hd ha K
    | irem => cases len_of hlen rfl; exact sp_irem hx hb hH hL hst hd ha K
    | iand => cases len_of hlen rfl; exact sp_iand hx hb hH hL hst hd ha K
    | ishl => cases len_of hlen rfl; exact sp_ishl hx hb hH hL hst hd ha K
    | ishr => cases len_of hlen rfl; exact sp_ishr hx hb hH hL hst hd ha K
    | ineg => cases len_of hlen rfl; exact sp_ineg hx hb hH hL hst hd ha K
    | i2b => cases len_of hlen rfl; exact sp_i2b hx hb hH hL hst hd ha K
    | i2s => cases len_of hlen rfl; exact sp_i2s hx hb hH hL hst hd ha K
    | i2l => cases len_of hlen rfl; exact sp_i2l hx hb hH hL hst hd ha K
    | l2i => cases len_of hlen rfl; exact sp_l2i hx hb hH hL hst hd ha K
    | ladd => cases len_of hlen rfl; exact sp_ladd hx hb hH hL hst hd ha K
    | lmul => cases len_of hlen rfl; exact sp_lmul hx hb hH hL hst hd ha K
    | ldiv => cases len_of hlen rfl; exact sp_ldiv hx hb hH hL hst hd ha K
    | lrem => cases len_of hlen rfl; exact sp_lrem hx hb hH hL hst hd ha K
    | lcmp => cases len_of hlen rfl; exact sp_lcmp hx hb hH hL hst hd ha K
    | dup => cases len_of hlen rfl; exact sp_dup hx hb hH hL hst hd ha K
    | dup2 => cases len_of hlen rfl; exact sp_dup2 hx hb hH hL hst hd ha K
    | goto off => cases len_of hlen rfl; exact sp_goto hx hb hH hL hst hd ha K
    | ifCond k off =>
      cases len_of hlen rfl
      cases k with
      | eq => exact sp_if_eq hx hb hH hL hst hd ha K
      | ne => exact sp_if_ne hx hb hH hL hst hd ha K
      | lt => exact sp_if_lt hx hb hH hL hst hd ha K
      | ge => exact sp_if_ge hx hb hH hL hst hd ha K
      | gt => exact sp_if_gt hx hb hH hL hst hd ha K
      | le => exact sp_if_le hx hb hH hL hst hd ha K
    | if_icmp k off =>
      cases len_of hlen rfl
      cases k with
      | eq => exact sp_icmp_eq hx hb hH hL hst hd ha K
      | ne => exact sp_icmp_ne hx hb hH hL hst hd ha K
      | lt => exact sp_icmp_lt hx hb hH hL hst hd ha K
      | ge => exact sp_icmp_ge hx hb hH hL hst hd ha K
      | gt => exact sp_icmp_gt hx hb hH hL hst hd ha K
      | le => exact sp_icmp_le hx hb hH hL hst hd ha K
    | tableswitch a b c d => exact sp_tab hx hb hH hL hst hd ha K
    | lookupswitch a b => exact sp_look hx hb hH hL hst hd ha K
    | getfield k => cases len_of hlen rfl; exact sh_getf hx hb hC hown hpi hH hL hst hd ha K
    | putfield k => cases len_of hlen rfl; exact sh_putf hx hb hC hown hini hpi hH hL hst hd ha K
    | getstatic k => cases len_of hlen rfl; exact sh_gets hx hb hC hown hpi hH hL hst hd ha K
    | iaload => cases len_of hlen rfl; exact sh_iald hx hb hC hown hH hL hst hd ha K
    | iastore => cases len_of hlen rfl; exact sh_iast hx hb hC hown hH hL hst hd ha K
    | baload => cases len_of hlen rfl; exact sh_bald hx hb hC hown hH hL hst hd ha K
    | bastore => cases len_of hlen rfl; exact sh_bast hx hb hC hown hH hL hst hd ha K
    | aaload => cases len_of hlen rfl; exact sh_aald hx hb hC hown hH hL hst hd ha K
    | aastore => cases len_of hlen rfl; exact sh_aast hx hb hC hown hH hL hst hd ha K
    | arraylength => cases len_of hlen rfl; exact sh_alen hx hb hC hown hH hL hst hd ha K
    | newarray t =>
      cases len_of hlen rfl
      cases t with
      | int => exact sh_newaI hx hb hC hown hg rfl rfl hH hL hst hd ha K
      | boolean => exact sh_newaZ hx hb hC hown hg rfl rfl hH hL hst hd ha K
      | _ => cases ha
    | anewarray k => cases len_of hlen rfl; exact sh_newq hx hb hC hown hpi hg rfl rfl hH hL hst hd ha K
    | multianewarray k n =>
      cases len_of hlen rfl
      unfold actI at ha
      split at ha
      all_goals first
        | (next h => cases h; exact hmna hx hb hC hown hpi hg rfl rfl hH hL hst hd ha K)
        | (next h => cases h)
        | cases ha
    | new k => cases len_of hlen rfl; exact sh_new hx hb hC hown hpi hg rfl rfl hH hL hst hd ha K
    | invokevirtual k =>
      have ha : aInvV (mOwn mid * 1000 + k) mst S = some (.inl (pc', mls', mst', S', M')) := ha
      unfold aInvV at ha
      split at ha
      · split at ha
        · split at ha
          · split at ha
            · split at ha <;> cases ha
            · cases ha
          · cases ha
        · cases ha
      · cases ha
    | invokestatic k => cases len_of hlen rfl; exact sc_copy hx hb hml hg rfl rfl hC hown hpi hRf hRl hH hL hst hd ha K
    | invokespecial k => cases len_of hlen rfl; exact sc_obj hx hb hml hC hown hpi hRf hRl hH hL hst hd ha K
    | ireturn =>
      have ha : aIret (mR mid) mst = some (.inl (pc', mls', mst', S', M')) := ha
      unfold aIret at ha
      split at ha
      · split at ha
        · cases ha
        · split at ha <;> cases ha
        · cases ha
      · cases ha
    | lreturn =>
      have ha : aLret (mR mid) mst = some (.inl (pc', mls', mst', S', M')) := ha
      unfold aLret at ha
      split at ha
      · split at ha <;> cases ha
      · cases ha
    | areturn =>
      have ha : aAret (mR mid) mst = some (.inl (pc', mls', mst', S', M')) := ha
      unfold aAret at ha
      split at ha
      · split at ha <;> cases ha
      · cases ha
    | return_ =>
      have ha : aVret (mR mid) mst = some (.inl (pc', mls', mst', S', M')) := ha
      unfold aVret at ha
      split at ha <;> cases ha
    | _ => cases ha
  · cases ha
end SIMS
