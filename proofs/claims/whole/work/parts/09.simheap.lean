def tysOf (cA : Nat → ClassId) : List (ClassId × FieldType) := [(cA 20, .int), (cA 21, .boolean), (cA 22, .array .int), (cA 23, .object RX5), (cA 24, .object RX6)]
/-- the words that a call carries by itself: arrays over classes, a nest mate's constructor -/
def XW (s : State) : Prop := va_AO RX5 s ∧ va_AO RX6 s ∧ va_Nw (.arrayOver (.array .int)) s ∧ va_Nw (.methodLinkNest "ElbowQueue" 18 ⟨"ElbowQueue$Reader", "<init>", "()V"⟩ "ElbowQueue") s
/-- what is known of the tables and of the statics at a method's start -/
def CK (D : va_G) (cA : Nat → ClassId) (base : Nat) (tt : Nat → Nat) (s : State) (args : Array Value) : Prop :=
  (∀ w ∈ gwT, w.before args s = true) ∧ va_K D vwCl (tysOf cA) s ∧ (∀ j, j < 3 → va_Z RX1 (sN j) "[I" (.ref (tt j)) (fun q => base ≤ q) s s.heap ∧ va_T .int (tt j) 6 (fun i => .int (Int32.ofInt ((sT j).getD i 0))) (fun q => base ≤ q) s s.heap) ∧ base ≤ s.heap.size ∧ XW s
theorem key_div {own idx : Nat} (h : idx < 1000) : (own * 1000 + idx) / 1000 = own ∧ (own * 1000 + idx) % 1000 = idx := by omega
theorem ph_lt {base : Nat} {tt : Nat → Nat} {a : Nat} (h : a < 1000000) : ph base tt a = base + a := if_neg (by omega)
theorem ph_st {base : Nat} {tt : Nat → Nat} {j : Nat} : ph base tt (1000000 + j) = tt j := by
  unfold ph
  rw [if_pos (Nat.le_add_right _ _), Nat.add_sub_cancel_left]
theorem S_lt {S : List Sh} {a : Nat} {h : Sh} (hs : S[a]? = some h) (hl : S.length ≤ 1000000) : a < S.length ∧ a < 1000000 := by
  have h1 := (List.getElem?_eq_some_iff.mp hs).1
  exact ⟨h1, by omega⟩
theorem cellE_obj {f : Nat → Nat} {cA : Nat → ClassId} {M : Mem} {a ci n : Nat} {rf : List (Option Nat)} (h : ci < 9) : cellE f cA M a (ci, n, rf) = .inr (ci, (List.range (fnum ci)).map (slotV f M a ci rf)) := if_pos h
theorem cellE_arr {f : Nat → Nat} {cA : Nat → ClassId} {M : Mem} {a kd n : Nat} {rf : List (Option Nat)} (h : kd = 20 ∨ kd = 21) : cellE f cA M a (kd, n, rf) = .inl (cA kd, n, .inl (fun i => Int32.ofInt (M a (i : Int)))) := by
  unfold cellE
  rw [if_neg (by simp; omega), if_pos (by simp; omega)]
theorem cellE_ref {f : Nat → Nat} {cA : Nat → ClassId} {M : Mem} {a kd n : Nat} {rf : List (Option Nat)} (h : kd = 22 ∨ kd = 23 ∨ kd = 24) : cellE f cA M a (kd, n, rf) = .inl (cA kd, n, .inr (.inr (.inr (.inr (fun i => (rf.getD i none).map f))))) := by
  unfold cellE
  rw [if_neg (by simp; omega), if_neg (by simp; omega)]
theorem mu_R {M : Mem} {a : Nat} {i x : Int} (h : ∀ a i, inR (M a i)) (hx : inR x) : ∀ b j, inR (mu M a i x b j) := fun b j => by
  unfold mu
  split
  · exact hx
  · exact h b j
theorem mzs_R {M : Mem} {a : Nat} (h : ∀ a i, inR (M a i)) : ∀ b j, inR (mzs M a b j) := fun b j => by
  unfold mzs
  split
  · exact inR_0
  · exact h b j
theorem mu_ne {M : Mem} {a b : Nat} {i x : Int} (h : b ≠ a) (j : Int) : mu M a i x b j = M b j := if_neg (fun q => h q.1)
theorem tot_set {S : List Sh} {a kd n : Nat} {rf rf' : List (Option Nat)} (h : S[a]? = some (kd, n, rf)) : tot (S.set a (kd, n, rf')) = tot S := by
  unfold tot
  have e : (S.set a (kd, n, rf')).map (fun h : Sh => h.2.1) = S.map (fun h : Sh => h.2.1) := by
    apply List.ext_getElem?
    intro b
    by_cases e : b = a
    · subst e
      rw [List.getElem?_map, List.getElem?_set_self (List.getElem?_eq_some_iff.mp h).1, List.getElem?_map, h]
      rfl
    · rw [List.getElem?_map, List.getElem?_set_ne (fun q => e q.symm), List.getElem?_map]
  rw [e]
theorem tot_app (S T : List Sh) : tot (S ++ T) = tot S + tot T := by simp [tot]
section SIMH
variable {p : Program} {l : Launch} {e : Env} {R : Room} {s : State} {m : MethodId} {args : Array Value} {below : List Frame} {meth : Method} {c : Code} {H : Heap} {locs : List Loc} {cells slots : Nat} {Q : State → Prop}
variable {cc : ByteArray} {pc : Nat} {ls : Array Slot}
variable {D : va_G} {cA : Nat → ClassId} {base : Nat} {tt : Nat → Nat} {nL MC MS : Nat} {Sf S S' : List Sh} {M M' : Mem} {mls mls' : Lv} {mst mst' : List Vv} {pc' own idx : Nat}
theorem HI.put (h : HI D cA base tt s MC MS Sf S M H locs cells slots) {H1 : Heap} {locs1 : List Loc} (hP : va_P D vwCl (world base (ph base tt) cA S' M') H1) (hS : va_S (fun q => base ≤ q) s.heap H1 locs1) (hM : ∀ a i, inR (M' a i)) (hl : S'.length = S.length) (ht : tot S' = tot S) : HI D cA base tt s MC MS Sf S' M' H1 locs1 cells slots :=
  ⟨hP, hS, hM, by rw [hl]; exact h.2.2.2.1, by rw [hl]; exact h.2.2.2.2.1, by rw [hl]; exact h.2.2.2.2.2.1, by rw [ht]; exact h.2.2.2.2.2.2⟩
theorem sh_getf (hx : p.tables.exec = Jvm.exec) (hb : c.code = cc) (hC : CK D cA base tt s args) (hown : s.vm.findClass (cN own) = some m.cls) (hix : idx < 1000) (hH : HI D cA base tt s MC MS Sf S M H locs cells slots) (hL : LR (ph base tt) nL mls ls) (hst : ∀ v ∈ mst, okV v) (hd : decode cc pc = .ok (.getfield idx, 3)) (ha : aGetf (own * 1000 + idx) pc mls mst S M = some (.inl (pc', mls', mst', S', M'))) (K : KK p l e R s m args below meth c Q D cA base tt nL MC MS Sf pc' mls' mst' S' M') : W p l e R s m args below meth c H locs cells slots Q (F0 m pc ls (mst.map (rv (ph base tt)))) := by
  unfold aGetf at ha
  split at ha
  · next a rest ci k hk =>
    split at ha
    · next kd n rf hs =>
      split at ha
      · next hc =>
        obtain ⟨rfl, hk9⟩ := hc
        obtain ⟨hP, hS, hM, hSl, -⟩ := id hH
        have hw := wF _ (lk_mem hk)
        have hci := pF_ok _ (lk_mem hk)
        unfold wordF at hw
        rw [(key_div hix).1, (key_div hix).2] at hw
        have hat := world_at (base := base) (f := ph base tt) (cA := cA) (M := M) hs
        rw [cellE_obj hci] at hat
        have hr : rv (ph base tt) (vR (some a)) = .ref (base + a) := by show Value.ref (ph base tt a) = _; rw [ph_lt (S_lt hs hSl).2]
        have hf : ∀ v : Vv, okV v → go (pc + 3) mls (v :: rest) S M = some (.inl (pc', mls', mst', S', M')) → slotV (ph base tt) M a kd rf k = rv (ph base tt) v → W p l e R s m args below meth c H locs cells slots Q (F0 m pc ls ((vR (some a) :: rest).map (rv (ph base tt)))) := by
          intro v hv hg he
          obtain ⟨rfl, rfl, rfl, rfl, rfl⟩ := go_inj hg
          rw [List.map_cons, hr]
          refine va_get hx hb hC.1 (cls_in hci) hown hC.2.1 hP a hat (cls_cl _ hci) k hk9 (hC.1 _ (tb_in hw)) (fun x h => h) (v := rv (ph base tt) v) ?_ hd (K H locs cells slots ls hH hL (ok1 (okt hst) hv))
          rw [List.getElem?_map, List.getElem?_range hk9]
          simp [he]
        split at ha
        · next h1 => exact hf (vR (rf.getD k none)) trivial ha (by simp [slotV, h1, rv])
        · next h1 => exact hf (vI (M a k)) (hM a k) ha (by simp [slotV, h1, rv])
      · cases ha
    · cases ha
  · cases ha
theorem fs_set {f : Nat → Nat} {M M' : Mem} {a ci k : Nat} {rf rf' : List (Option Nat)} {v : Value} (hv : v = slotV f M' a ci rf' k) (ho : ∀ j, j ≠ k → slotV f M a ci rf j = slotV f M' a ci rf' j) : ((List.range (fnum ci)).map (slotV f M a ci rf)).set k v = (List.range (fnum ci)).map (slotV f M' a ci rf') := by
  apply List.ext_getElem?
  intro j
  by_cases hj : j < fnum ci
  · by_cases e : j = k
    · subst e
      rw [List.getElem?_set_self (by simpa using hj), List.getElem?_map, List.getElem?_range hj, hv]
      rfl
    · rw [List.getElem?_set_ne (fun q => e q.symm), List.getElem?_map, List.getElem?_map, List.getElem?_range hj]
      simp [ho j e]
  · rw [List.getElem?_eq_none (by simp; omega), List.getElem?_eq_none (by simp; omega)]
theorem cast_ne {j k : Nat} (h : j ≠ k) : (j : Int) ≠ (k : Int) := fun q => h (Int.ofNat.inj q)
theorem nar_ref {t : FieldType} (h : isRefT t = true) (f : Nat → Nat) (r : Nat) : narrow t (.ref r) = .ref r ∧ fits t (.ref r) = true := by
  cases t <;> first | exact ⟨rfl, rfl⟩ | cases h
theorem nar_z {x : Int} (h : x = 0 ∨ x = 1) : narrow .boolean (.int (Int32.ofInt x)) = .int (Int32.ofInt x) ∧ fits .boolean (.int (Int32.ofInt x)) = true := by
  rcases h with rfl | rfl
  · exact ⟨by decide, by decide⟩
  · exact ⟨by decide, by decide⟩
theorem S_set_ne {S : List Sh} {a b : Nat} {h : Sh} (e : b ≠ a) : (S.set a h)[b]? = S[b]? := List.getElem?_set_ne (fun q => e q.symm)
theorem sh_putf (hx : p.tables.exec = Jvm.exec) (hb : c.code = cc) (hC : CK D cA base tt s args) (hown : s.vm.findClass (cN own) = some m.cls) {ini : Bool} (hini : ini = true → meth.name = "<init>") (hix : idx < 1000) (hH : HI D cA base tt s MC MS Sf S M H locs cells slots) (hL : LR (ph base tt) nL mls ls) (hst : ∀ v ∈ mst, okV v) (hd : decode cc pc = .ok (.putfield idx, 3)) (ha : aPutf own ini (own * 1000 + idx) pc mls mst S M = some (.inl (pc', mls', mst', S', M'))) (K : KK p l e R s m args below meth c Q D cA base tt nL MC MS Sf pc' mls' mst' S' M') : W p l e R s m args below meth c H locs cells slots Q (F0 m pc ls (mst.map (rv (ph base tt)))) := by
  unfold aPutf at ha
  split at ha
  · next v a rest ci k hk =>
    split at ha
    · next kd n rf hs =>
      split at ha
      · next hc =>
        obtain ⟨rfl, hk9, hfin⟩ := hc
        obtain ⟨hP, hS, hM, hSl, -⟩ := id hH
        have hw := wF _ (lk_mem hk)
        have hci := pF_ok _ (lk_mem hk)
        unfold wordF at hw
        rw [(key_div hix).1, (key_div hix).2] at hw
        have hat := world_at (base := base) (f := ph base tt) (cA := cA) (M := M) hs
        rw [cellE_obj hci] at hat
        obtain ⟨hal, ham⟩ := S_lt hs hSl
        have hr : rv (ph base tt) (vR (some a)) = .ref (base + a) := by show Value.ref (ph base tt a) = _; rw [ph_lt ham]
        obtain ⟨t0, t1, t2, -⟩ := cls_fty _ hci k hk9
        have hcf := cls_fin _ hci k hk9
        have hf : ∀ (S2 : List Sh) (M2 : Mem), narrow (Cty kd k) (rv (ph base tt) v) = rv (ph base tt) v → fits (Cty kd k) (rv (ph base tt) v) = true → go (pc + 3) mls rest S2 M2 = some (.inl (pc', mls', mst', S', M')) → (world base (ph base tt) cA S M).set a (base + a, .inr (kd, ((List.range (fnum kd)).map (slotV (ph base tt) M a kd rf)).set k (rv (ph base tt) v))) = world base (ph base tt) cA S2 M2 → (∀ a i, inR (M2 a i)) → S2.length = S.length → tot S2 = tot S → W p l e R s m args below meth c H locs cells slots Q (F0 m pc ls ((v :: vR (some a) :: rest).map (rv (ph base tt)))) := by
          intro S2 M2 hn hft hg hw2 hM2 hl2 ht2
          obtain ⟨rfl, rfl, rfl, rfl, rfl⟩ := go_inj hg
          rw [List.map_cons, List.map_cons, hr]
          have KK1 : ∀ (H1 : Heap) (locs1 : List Loc), va_P D vwCl ((world base (ph base tt) cA S M).set a (base + a, .inr (kd, ((List.range (fnum kd)).map (slotV (ph base tt) M a kd rf)).set k (rv (ph base tt) v)))) H1 → va_D (fun q => base ≤ q) ((world base (ph base tt) cA S M).set a (base + a, .inr (kd, ((List.range (fnum kd)).map (slotV (ph base tt) M a kd rf)).set k (rv (ph base tt) v)))) → va_S (fun q => base ≤ q) s.heap H1 locs1 → W p l e R s m args below meth c H1 locs1 cells slots Q (F0 m (pc + 3) ls (rest.map (rv (ph base tt)))) := by
            intro H1 locs1 p1 _ p3
            rw [hw2] at p1
            exact K H1 locs1 cells slots ls (hH.put p1 p3 hM2 hl2 ht2) hL (okt (okt hst))
          rcases hfin with hfin | hfin
          · exact va_put hx hb hC.1 (cls_in hci) (Cty kd) (cls_ty _ hci) (cls_nm _ hci) hown hC.2.1 hP world_D hS a hat (cls_cl _ hci) k hk9 (hC.1 _ (tb_in hw)) (fun x h => h) (hcf.1.trans hfin) (cls_ty _ hci k hk9) hn hft (by simpa using hk9) hd KK1
          · by_cases hq : ffi kd k = true
            · exact va_putF hx hb hC.1 (cls_in hci) (Cty kd) (cls_ty _ hci) (cls_nm _ hci) hown hC.2.1 hP world_D hS a hat (cls_cl _ hci) k hk9 (hC.1 _ (tb_in hw)) (fun x h => h) (hcf.1.trans hq) (hini hfin.1) (by rw [hfin.2]; exact hcf.2) (cls_ty _ hci k hk9) hn hft (by simpa using hk9) hd KK1
            · exact va_put hx hb hC.1 (cls_in hci) (Cty kd) (cls_ty _ hci) (cls_nm _ hci) hown hC.2.1 hP world_D hS a hat (cls_cl _ hci) k hk9 (hC.1 _ (tb_in hw)) (fun x h => h) (hcf.1.trans (by simpa using hq)) (cls_ty _ hci k hk9) hn hft (by simpa using hk9) hd KK1
        split at ha
        · next x =>
          split at ha
          · next h1 =>
            have hxr : inR x := okh hst
            have hnf : narrow (Cty kd k) (rv (ph base tt) (vI x)) = rv (ph base tt) (vI x) ∧ fits (Cty kd k) (rv (ph base tt) (vI x)) = true := by
              rcases h1 with h1 | ⟨h1, h2⟩
              · rw [t0 h1]; exact ⟨rfl, rfl⟩
              · rw [t2 h1]; exact nar_z h2
            have hne : ¬ fty kd k = 1 := by omega
            refine hf S (mu M a k x) hnf.1 hnf.2 ha ?_ (mu_R hM hxr) rfl rfl
            refine world_set hs ?_ (fun _ _ => rfl) (fun b hb2 j => mu_ne hb2 j) hal
            rw [cellE_obj hci]
            congr 2
            refine fs_set ?_ (fun j hj => ?_)
            · simp [slotV, hne, mu, rv]
            · simp [slotV, mu, cast_ne hj]
          · cases ha
        · next r =>
          split at ha
          · next h1 =>
            have hnf := nar_ref (t1 h1.1) (ph base tt) (ph base tt r)
            refine hf (S.set a (kd, n, rf.set k (some r))) M hnf.1 hnf.2 ha ?_ hM (List.length_set ..) (tot_set hs)
            refine world_set (List.getElem?_set_self hal) ?_ (fun b hb2 => S_set_ne hb2) (fun b _ j => rfl) hal
            rw [cellE_obj hci]
            congr 2
            refine fs_set ?_ (fun j hj => ?_)
            · simp [slotV, h1.1, rv, List.getD_eq_getElem?_getD, List.getElem?_set_self h1.2]
            · simp [slotV, List.getD_eq_getElem?_getD, List.getElem?_set_ne (fun q => hj q.symm)]
          · cases ha
        · cases ha
      · cases ha
    · cases ha
  · cases ha
theorem sh_iald (hx : p.tables.exec = Jvm.exec) (hb : c.code = cc) (hC : CK D cA base tt s args) (hown : s.vm.findClass (cN own) = some m.cls) (hH : HI D cA base tt s MC MS Sf S M H locs cells slots) (hL : LR (ph base tt) nL mls ls) (hst : ∀ v ∈ mst, okV v) (hd : decode cc pc = .ok (.iaload, 1)) (ha : aIald pc mls mst S M = some (.inl (pc', mls', mst', S', M'))) (K : KK p l e R s m args below meth c Q D cA base tt nL MC MS Sf pc' mls' mst' S' M') : W p l e R s m args below meth c H locs cells slots Q (F0 m pc ls (mst.map (rv (ph base tt)))) := by
  unfold aIald at ha
  obtain ⟨hP, hS, hM, hSl, -⟩ := id hH
  split at ha
  · next i a rest =>
    have hir : inR i := okh hst
    split at ha
    · next h0 =>
      split at ha
      · next h1 =>
        split at ha
        · next h2 =>
          split at ha
          · next x hxs =>
            obtain ⟨rfl, rfl, rfl, rfl, rfl⟩ := go_inj ha
            obtain ⟨j, rfl⟩ : ∃ j, a = 1000000 + j := ⟨a - 1000000, by omega⟩
            have hj : j < 3 := by omega
            rw [Nat.add_sub_cancel_left] at hxs
            have hlen : i.toNat < 6 := by
              have h3 := (List.getElem?_eq_some_iff.mp hxs).1
              rcases (show j = 0 ∨ j = 1 ∨ j = 2 by omega) with rfl | rfl | rfl <;> exact h3
            have hxR : inR x := by
              have h4 := List.mem_of_getElem? hxs
              have h5 : ∀ j < 3, ∀ y ∈ sT j, inR y := by decide
              exact h5 j hj x h4
            have hr : rv (ph base tt) (vR (some (1000000 + j))) = .ref (tt j) := by show Value.ref (ph base tt (1000000 + j)) = _; rw [ph_st]
            rw [List.map_cons, List.map_cons, hr]
            refine va_ti hx hb (hC.2.2.1 j hj).2 hS (i32_in hir h0 (by omega)) ?_ hd (K H locs cells slots ls hH hL (ok1 (okt (okt hst)) (v := vI x) hxR))
            simp [rv, i32_clamp hir, List.getD_eq_getElem?_getD, hxs]
          · cases ha
        · cases ha
      · next h1 =>
        split at ha
        · next kd n rf hs =>
          split at ha
          · next hc =>
            obtain ⟨rfl, h2⟩ := hc
            obtain ⟨rfl, rfl, rfl, rfl, rfl⟩ := go_inj ha
            have hat := world_at (base := base) (f := ph base tt) (cA := cA) (M := M) hs
            rw [cellE_arr (Or.inl rfl)] at hat
            have hr : rv (ph base tt) (vR (some a)) = .ref (base + a) := by show Value.ref (ph base tt a) = _; rw [ph_lt (S_lt hs hSl).2]
            rw [List.map_cons, List.map_cons, hr]
            have K1 := K H locs cells slots ls hH hL (ok1 (okt (okt hst)) (v := vI (M a i)) (hM a i))
            have e1 : M a i = M a ((Int32.ofInt i).toNatClampNeg : Int) := by rw [i32_clamp hir, Int.toNat_of_nonneg h0]
            rw [e1] at K1
            exact va_iald hx hb hC.2.1 hP a 0 hat rfl (i32_in hir h0 h2) hd K1
          · cases ha
        · cases ha
    · cases ha
  · cases ha
theorem sh_bald (hx : p.tables.exec = Jvm.exec) (hb : c.code = cc) (hC : CK D cA base tt s args) (hown : s.vm.findClass (cN own) = some m.cls) (hH : HI D cA base tt s MC MS Sf S M H locs cells slots) (hL : LR (ph base tt) nL mls ls) (hst : ∀ v ∈ mst, okV v) (hd : decode cc pc = .ok (.baload, 1)) (ha : aBald pc mls mst S M = some (.inl (pc', mls', mst', S', M'))) (K : KK p l e R s m args below meth c Q D cA base tt nL MC MS Sf pc' mls' mst' S' M') : W p l e R s m args below meth c H locs cells slots Q (F0 m pc ls (mst.map (rv (ph base tt)))) := by
  unfold aBald at ha
  obtain ⟨hP, hS, hM, hSl, -⟩ := id hH
  split at ha
  · next i a rest =>
    have hir : inR i := okh hst
    split at ha
    · next kd n rf hs =>
      split at ha
      · next hc =>
        obtain ⟨rfl, h0, h2⟩ := hc
        obtain ⟨rfl, rfl, rfl, rfl, rfl⟩ := go_inj ha
        have hat := world_at (base := base) (f := ph base tt) (cA := cA) (M := M) hs
        rw [cellE_arr (Or.inr rfl)] at hat
        have hr : rv (ph base tt) (vR (some a)) = .ref (base + a) := by show Value.ref (ph base tt a) = _; rw [ph_lt (S_lt hs hSl).2]
        rw [List.map_cons, List.map_cons, hr]
        have K1 := K H locs cells slots ls hH hL (ok1 (okt (okt hst)) (v := vI (M a i)) (hM a i))
        have e1 : M a i = M a ((Int32.ofInt i).toNatClampNeg : Int) := by rw [i32_clamp hir, Int.toNat_of_nonneg h0]
        rw [e1] at K1
        exact va_zald hx hb hC.2.1 hP a 1 hat rfl (i32_in hir h0 h2) hd K1
      · cases ha
    · cases ha
  · cases ha
theorem upd_mu {M : Mem} {a : Nat} {i x : Int} (hi : inR i) (h0 : 0 ≤ i) : upd (fun j => Int32.ofInt (M a (j : Int))) (Int32.ofInt i).toNatClampNeg (Int32.ofInt x) = fun (j : Nat) => Int32.ofInt (mu M a i x a (j : Int)) := by
  funext j
  rw [i32_clamp hi]
  unfold upd mu
  by_cases e : j = i.toNat
  · subst e
    rw [if_pos rfl, if_pos ⟨rfl, Int.toNat_of_nonneg h0⟩]
  · rw [if_neg e, if_neg (fun q => e (by have := q.2; omega))]
theorem sh_iast (hx : p.tables.exec = Jvm.exec) (hb : c.code = cc) (hC : CK D cA base tt s args) (hown : s.vm.findClass (cN own) = some m.cls) (hH : HI D cA base tt s MC MS Sf S M H locs cells slots) (hL : LR (ph base tt) nL mls ls) (hst : ∀ v ∈ mst, okV v) (hd : decode cc pc = .ok (.iastore, 1)) (ha : aIast pc mls mst S M = some (.inl (pc', mls', mst', S', M'))) (K : KK p l e R s m args below meth c Q D cA base tt nL MC MS Sf pc' mls' mst' S' M') : W p l e R s m args below meth c H locs cells slots Q (F0 m pc ls (mst.map (rv (ph base tt)))) := by
  unfold aIast at ha
  obtain ⟨hP, hS, hM, hSl, -⟩ := id hH
  split at ha
  · next x i a rest =>
    have hxr : inR x := okh hst
    have hir : inR i := okh (okt hst)
    split at ha
    · next kd n rf hs =>
      split at ha
      · next hc =>
        obtain ⟨rfl, h0, h2⟩ := hc
        obtain ⟨rfl, rfl, rfl, rfl, rfl⟩ := go_inj ha
        have hat := world_at (base := base) (f := ph base tt) (cA := cA) (M := M) hs
        rw [cellE_arr (Or.inl rfl)] at hat
        obtain ⟨hal, ham⟩ := S_lt hs hSl
        have hr : rv (ph base tt) (vR (some a)) = .ref (base + a) := by show Value.ref (ph base tt a) = _; rw [ph_lt ham]
        rw [List.map_cons, List.map_cons, List.map_cons, hr]
        refine va_iast hx hb hC.2.1 hP world_D hS a 0 hat rfl (i32_in hir h0 h2) hd (fun H1 locs1 p1 _ p3 => ?_)
        rw [upd_mu hir h0, world_set (S' := S) (N := mu M a i x) hs (by rw [cellE_arr (Or.inl rfl)]) (fun _ _ => rfl) (fun b hb2 j => mu_ne hb2 j) hal] at p1
        exact K H1 locs1 cells slots ls (hH.put p1 p3 (mu_R hM hxr) rfl rfl) hL (okt (okt (okt hst)))
      · cases ha
    · cases ha
  · cases ha
theorem sh_bast (hx : p.tables.exec = Jvm.exec) (hb : c.code = cc) (hC : CK D cA base tt s args) (hown : s.vm.findClass (cN own) = some m.cls) (hH : HI D cA base tt s MC MS Sf S M H locs cells slots) (hL : LR (ph base tt) nL mls ls) (hst : ∀ v ∈ mst, okV v) (hd : decode cc pc = .ok (.bastore, 1)) (ha : aBast pc mls mst S M = some (.inl (pc', mls', mst', S', M'))) (K : KK p l e R s m args below meth c Q D cA base tt nL MC MS Sf pc' mls' mst' S' M') : W p l e R s m args below meth c H locs cells slots Q (F0 m pc ls (mst.map (rv (ph base tt)))) := by
  unfold aBast at ha
  obtain ⟨hP, hS, hM, hSl, -⟩ := id hH
  split at ha
  · next x i a rest =>
    have hxr : inR x := okh hst
    have hir : inR i := okh (okt hst)
    split at ha
    · next kd n rf hs =>
      split at ha
      · next hc =>
        obtain ⟨rfl, h0, h2, h3⟩ := hc
        obtain ⟨rfl, rfl, rfl, rfl, rfl⟩ := go_inj ha
        have hat := world_at (base := base) (f := ph base tt) (cA := cA) (M := M) hs
        rw [cellE_arr (Or.inr rfl)] at hat
        obtain ⟨hal, ham⟩ := S_lt hs hSl
        have hr : rv (ph base tt) (vR (some a)) = .ref (base + a) := by show Value.ref (ph base tt a) = _; rw [ph_lt ham]
        have hnz : vp_nar .boolean (Int32.ofInt x) = Int32.ofInt x := by unfold vp_nar; rw [(nar_z h3).1]
        rw [List.map_cons, List.map_cons, List.map_cons, hr]
        refine va_zast hx hb hC.2.1 hP world_D hS a 1 hat rfl (i32_in hir h0 h2) hd (fun H1 locs1 p1 _ p3 => ?_)
        rw [hnz, upd_mu hir h0, world_set (S' := S) (N := mu M a i x) hs (by rw [cellE_arr (Or.inr rfl)]) (fun _ _ => rfl) (fun b hb2 j => mu_ne hb2 j) hal] at p1
        exact K H1 locs1 cells slots ls (hH.put p1 p3 (mu_R hM hxr) rfl rfl) hL (okt (okt (okt hst)))
      · cases ha
    · cases ha
  · cases ha
end SIMH
