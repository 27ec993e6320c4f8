section SIMC
variable {p : Program} {l : Launch} {e : Env} {R : Room} {s : State} {m : MethodId} {args : Array Value} {below : List Frame} {meth : Method} {c : Code} {H : Heap} {locs : List Loc} {cells slots : Nat} {Q : State → Prop}
variable {cc : ByteArray} {pc : Nat} {ls : Array Slot}
variable {D : va_G} {cA : Nat → ClassId} {base : Nat} {tt : Nat → Nat} {nL MC MS : Nat} {Sf S S' : List Sh} {M M' : Mem} {mls mls' : Lv} {mst mst' : List Vv} {pc' own idx : Nat}
theorem catS_rv {f : Nat → Nat} (st : List Vv) : ((st.map (rv f)).map fun v => v.category).sum = catS st := by
  unfold catS
  rw [List.map_map]
  congr 2
  funext v
  exact rv_cat v
theorem w_nat : Cond.native arraycopyN ∈ tables_1 := by decide +kernel
theorem w_nst : Cond.static arraycopyN ∈ tables_1 := by decide +kernel
theorem w_nin : Cond.initialized "java/lang/System" ∈ tables_1 := by decide +kernel
theorem w_oi : Cond.instanceMethod objectInit ∈ tables_1 := by decide +kernel
theorem w_oc : Cond.code objectInit ⟨#[0xb1]⟩ 1 none ∈ tables_1 := List.mem_of_getElem? (i := 19) rfl
theorem w_mi : Cond.initialized "java/lang/Math" ∈ tables_1 := by decide +kernel
set_option maxRecDepth 100000 in
theorem w_mx : Cond.static Lib.Math.max.name ∈ tables_1 ∧ Cond.code Lib.Math.max.name Lib.Math.max.code 2 (some .int) ∈ tables_1 := ⟨by decide +kernel, List.mem_of_getElem? (i := 704) rfl⟩
set_option maxRecDepth 100000 in
theorem w_mn : Cond.static Lib.Math.min.name ∈ tables_1 ∧ Cond.code Lib.Math.min.name Lib.Math.min.code 2 (some .int) ∈ tables_1 := ⟨by decide +kernel, List.mem_of_getElem? (i := 435) rfl⟩
theorem mcp_R {M : Mem} {a b : Nat} {sp dp n : Int} (h : ∀ a i, inR (M a i)) : ∀ c j, inR (mcp M a sp b dp n c j) := fun c j => by
  unfold mcp
  split
  · exact h _ _
  · exact h _ _
theorem cpy_mcp {M : Mem} {a b : Nat} {sp dp n : Int} (h1 : inR sp) (h2 : inR dp) (h3 : inR n) (p1 : 0 ≤ sp) (p2 : 0 ≤ dp) (p3 : 0 ≤ n) : va_cpy (fun j => Int32.ofInt (M a (j : Int))) (fun j => Int32.ofInt (M b (j : Int))) (Int32.ofInt sp).toNatClampNeg (Int32.ofInt dp).toNatClampNeg (Int32.ofInt n).toNatClampNeg = fun (j : Nat) => Int32.ofInt (mcp M a sp b dp n b (j : Int)) := by
  funext j
  rw [i32_clamp h1, i32_clamp h2, i32_clamp h3]
  unfold va_cpy mcp
  by_cases e : dp.toNat ≤ j ∧ j < dp.toNat + n.toNat
  · have e3 : ((sp.toNat + (j - dp.toNat) : Nat) : Int) = sp + ((j : Int) - dp) := by omega
    rw [if_pos e, if_pos ⟨rfl, by omega, by omega⟩, ← e3]
  · rw [if_neg e, if_neg (fun q => e ⟨by have := q.2.1; omega, by have := q.2.2; omega⟩)]
theorem notNest {k v : Nat} (h : isNest (k, v) = false) : wordM (k, v) = .methodLink (cN (k / 1000)) (k % 1000) (mYY v) := by
  unfold wordM
  rw [h]
  rfl
theorem nest_1000 : ∀ q ∈ poolM, (1000 ≤ q.2 ∨ mS q.2 = true ∨ ¬ (mY q.2).name = "<init>") → isNest q = false := by decide +kernel
theorem sc_copy (hx : p.tables.exec = Jvm.exec) (hb : c.code = cc) (hml : c.maxLocals = nL) (hg : S'.length ≤ Sf.length ∧ tot S' ≤ tot Sf) (hRc : R.cells = MC) (hRs : R.slots = MS) (hC : CK D cA base tt s args) (hown : s.vm.findClass (cN own) = some m.cls) (hix : idx < 1000) (hRf : 1 ≤ R.frames) (hRl : 40 ≤ R.locals) (hH : HI D cA base tt s MC MS Sf S M H locs cells slots) (hL : LR (ph base tt) nL mls ls) (hst : ∀ v ∈ mst, okV v) (hd : decode cc pc = .ok (.invokestatic idx, 3)) (ha : aInvS (own * 1000 + idx) pc mls mst S M = some (.inl (pc', mls', mst', S', M'))) (K : KK p l e R s m args below meth c Q D cA base tt nL MC MS Sf pc' mls' mst' S' M') : W p l e R s m args below meth c H locs cells slots Q (F0 m pc ls (mst.map (rv (ph base tt)))) := by
  unfold aInvS at ha
  obtain ⟨hP, hS, hM, hSl, -⟩ := id hH
  split at ha
  · next mid hk =>
    split at ha
    · next h1 =>
      subst h1
      split at ha
      · next n dp b sp a rest =>
        split at ha
        · next ka na ra kb nb rb hsa hsb =>
          split at ha
          · next hc =>
            obtain ⟨rfl, rfl, p3, p1, p2, q1, q2, hcat⟩ := hc
            obtain ⟨rfl, rfl, rfl, rfl, rfl⟩ := go_inj ha
            have hw := wM _ (lk_mem hk)
            rw [notNest (nest_1000 _ (lk_mem hk) (Or.inl (by show 1000 ≤ _; omega))), (key_div hix).1, (key_div hix).2] at hw
            have hnr : inR n := okh hst
            have hdr : inR dp := okh (okt hst)
            have hsr : inR sp := okh (okt (okt (okt hst)))
            have hata := world_at (base := base) (f := ph base tt) (cA := cA) (M := M) hsa
            rw [cellE_arr (Or.inl rfl)] at hata
            have hatb := world_at (base := base) (f := ph base tt) (cA := cA) (M := M) hsb
            rw [cellE_arr (Or.inl rfl)] at hatb
            obtain ⟨hbl, hbm⟩ := S_lt hsb hSl
            have hra : rv (ph base tt) (vR (some a)) = .ref (base + a) := by show Value.ref (ph base tt a) = _; rw [ph_lt (S_lt hsa hSl).2]
            have hrb : rv (ph base tt) (vR (some b)) = .ref (base + b) := by show Value.ref (ph base tt b) = _; rw [ph_lt hbm]
            simp only [List.map_cons, hra, hrb]
            refine va_copyi hx hb (hml.trans hL.2.1.symm) hown (hC.1 _ (tb_in hw)) (hC.1 _ (tb_in w_nat)) (hC.1 _ (tb_in w_nst)) (hC.1 _ (tb_in w_nin)) hC.2.1 hP world_D hS a b 0 0 hata hatb rfl rfl rfl (i32_neg hsr p1) (i32_neg hdr p2) (i32_neg hnr p3) (by rw [i32_clamp hsr, i32_clamp hnr]; omega) (by rw [i32_clamp hdr, i32_clamp hnr]; omega) (fun i _ => rfl) hRf ?_ hd (fun H1 locs1 g1 _ g3 => ?_)
            · rw [catS_rv]
              have h9 : nativeFrameWords "java/lang/System" "arraycopy" 5 = 7 := by decide +kernel
              rw [h9]
              omega
            · rw [cpy_mcp hsr hdr hnr p1 p2 p3, world_set (S' := S) (N := mcp M a sp b dp n) hsb (by rw [cellE_arr (Or.inl rfl)]) (fun _ _ => rfl) (fun c hc2 j => if_neg (fun q => hc2 q.1)) hbl] at g1
              exact K H1 locs1 cells slots ls (hH.put g1 g3 (mcp_R hM) rfl rfl) hL (okt (okt (okt (okt (okt hst)))))
          · cases ha
        · cases ha
      · cases ha
    · split at ha
      · next h1 =>
        subst h1
        split at ha
        · next y x rest =>
          split at ha
          · next hcat =>
            obtain ⟨rfl, rfl, rfl, rfl, rfl⟩ := go_inj ha
            have hw := wM _ (lk_mem hk)
            rw [notNest (nest_1000 _ (lk_mem hk) (Or.inl (by show 1000 ≤ _; omega))), (key_div hix).1, (key_div hix).2] at hw
            have hy : inR y := okh hst
            have hx2 : inR x := okh (okt hst)
            have K1 := K H locs cells slots ls hH hL (ok1 (okt (okt hst)) (v := vI (if x < y then y else x)) (by show inR _; split <;> assumption))
            have e1 : (if Int32.ofInt x < Int32.ofInt y then Int32.ofInt y else Int32.ofInt x) = Int32.ofInt (if x < y then y else x) := by
              by_cases h : x < y
              · rw [if_pos h, if_pos ((i32_lt hx2 hy).mpr h)]
              · rw [if_neg h, if_neg (fun q => h ((i32_lt hx2 hy).mp q))]
            simp only [List.map_cons, rv] at K1 ⊢
            rw [← e1] at K1
            exact va_mmax hx hb (hml.trans hL.2.1.symm) hown (hC.1 _ (tb_in hw)) (hC.1 _ (tb_in w_mx.1)) (hC.1 _ (tb_in w_mi)) (hC.1 _ (tb_in w_mx.2)) hRf (by rw [catS_rv]; omega) (by rw [hRc]; have := hH.2.2.2.2.2.1; omega) (by rw [hRs]; have := hH.2.2.2.2.2.2; omega) hd K1
          · cases ha
        · cases ha
      · split at ha
        · next h1 =>
          subst h1
          split at ha
          · next y x rest =>
            split at ha
            · next hcat =>
              obtain ⟨rfl, rfl, rfl, rfl, rfl⟩ := go_inj ha
              have hw := wM _ (lk_mem hk)
              rw [notNest (nest_1000 _ (lk_mem hk) (Or.inl (by show 1000 ≤ _; omega))), (key_div hix).1, (key_div hix).2] at hw
              have hy : inR y := okh hst
              have hx2 : inR x := okh (okt hst)
              have K1 := K H locs cells slots ls hH hL (ok1 (okt (okt hst)) (v := vI (if y < x then y else x)) (by show inR _; split <;> assumption))
              have e1 : (if Int32.ofInt y < Int32.ofInt x then Int32.ofInt y else Int32.ofInt x) = Int32.ofInt (if y < x then y else x) := by
                by_cases h : y < x
                · rw [if_pos h, if_pos ((i32_lt hy hx2).mpr h)]
                · rw [if_neg h, if_neg (fun q => h ((i32_lt hy hx2).mp q))]
              simp only [List.map_cons, rv] at K1 ⊢
              rw [← e1] at K1
              exact va_mmin hx hb (hml.trans hL.2.1.symm) hown (hC.1 _ (tb_in hw)) (hC.1 _ (tb_in w_mn.1)) (hC.1 _ (tb_in w_mi)) (hC.1 _ (tb_in w_mn.2)) hRf (by rw [catS_rv]; omega) (by rw [hRc]; have := hH.2.2.2.2.2.1; omega) (by rw [hRs]; have := hH.2.2.2.2.2.2; omega) hd K1
            · cases ha
          · cases ha
        · split at ha <;> cases ha
  · cases ha
theorem sc_obj (hx : p.tables.exec = Jvm.exec) (hb : c.code = cc) (hml : c.maxLocals = nL) (hC : CK D cA base tt s args) (hown : s.vm.findClass (cN own) = some m.cls) (hix : idx < 1000) (hRf : 1 ≤ R.frames) (hRl : 40 ≤ R.locals) (hH : HI D cA base tt s MC MS Sf S M H locs cells slots) (hL : LR (ph base tt) nL mls ls) (hst : ∀ v ∈ mst, okV v) (hd : decode cc pc = .ok (.invokespecial idx, 3)) (ha : aInvI (own * 1000 + idx) pc mls mst S M = some (.inl (pc', mls', mst', S', M'))) (K : KK p l e R s m args below meth c Q D cA base tt nL MC MS Sf pc' mls' mst' S' M') : W p l e R s m args below meth c H locs cells slots Q (F0 m pc ls (mst.map (rv (ph base tt)))) := by
  unfold aInvI at ha
  split at ha
  · next mid hk =>
    split at ha
    · next h1 =>
      subst h1
      split at ha
      · next a rest =>
        split at ha
        · next hcat =>
          obtain ⟨rfl, rfl, rfl, rfl, rfl⟩ := go_inj ha
          have hw := wM _ (lk_mem hk)
          rw [notNest (nest_1000 _ (lk_mem hk) (Or.inl (by show 1000 ≤ _; omega))), (key_div hix).1, (key_div hix).2] at hw
          exact W.objInit hx hb hown (hC.1 _ (tb_in hw)) (hC.1 _ (tb_in w_oi)) (hC.1 _ (tb_in w_oc)) rfl (hL.2.1.trans hml.symm) rfl hd hRf (by show 2 * 0 + _ + 12 ≤ _; rw [catS_rv]; omega) (K H locs cells slots ls hH hL (okt hst))
        · cases ha
      · cases ha
    · split at ha
      · split at ha
        · split at ha
          · cases ha
          · cases ha
        · cases ha
      · cases ha
  · cases ha
end SIMC
