section SIMH2
variable {p : Program} {l : Launch} {e : Env} {R : Room} {s : State} {m : MethodId} {args : Array Value} {below : List Frame} {meth : Method} {c : Code} {H : Heap} {locs : List Loc} {cells slots : Nat} {Q : State → Prop}
variable {cc : ByteArray} {pc : Nat} {ls : Array Slot}
variable {D : va_G} {cA : Nat → ClassId} {base : Nat} {tt : Nat → Nat} {nL MC MS : Nat} {Sf S S' : List Sh} {M M' : Mem} {mls mls' : Lv} {mst mst' : List Vv} {pc' own idx : Nat}
theorem W_size {g : JFrame} (h : H.size ≤ s.heap.size + cells → W p l e R s m args below meth c H locs cells slots Q g) : W p l e R s m args below meth c H locs cells slots Q g := fun T hT X => h (by rw [← hT]; exact X.heapSize) T hT X
theorem HI.size (hH : HI D cA base tt s MC MS Sf S M H locs cells slots) (hbase : base ≤ s.heap.size) (h : H.size ≤ s.heap.size + cells) : H.size = base + S.length := by
  obtain ⟨hP, hS, hM, hSl, hsz, -⟩ := hH
  by_cases h0 : S.length = 0
  · have := hS.1
    omega
  · obtain ⟨x, hx⟩ : ∃ x, S[S.length - 1]? = some x := ⟨_, List.getElem?_eq_getElem (by omega)⟩
    have h1 := (hP _ _ (world_at hx)).lt
    simp only at h1
    omega
theorem HI.push (hH : HI D cA base tt s MC MS Sf S M H locs cells slots) {H1 : Heap} {h : Sh} {N : Mem} (hlt : S.length < 1000000) (hbase : base ≤ s.heap.size) (hsz : H.size = base + S.length) (o1 : ∀ q, q < H.size → H1[q]? = H[q]?) (z1 : H1.size = H.size + 1) (hat : va_at D vwCl (base + S.length, cellE (ph base tt) cA N S.length h) H1) (hN : ∀ b, b < S.length → ∀ i, N b i = M b i) (hNR : ∀ a i, inR (N a i)) : HI D cA base tt s MC MS Sf (S ++ [h]) N H1 locs (cells + 1) (slots + h.2.1) := by
  obtain ⟨hP, hS, hM, hSl, h1, h2, h3⟩ := hH
  refine ⟨?_, ⟨by have := hS.1; omega, fun q q1 q2 => (o1 q (by have := hS.1; omega)).trans (hS.2.1 q q1 q2), hS.2.2⟩, hNR, by simp; omega, by simp; omega, by simp; omega, by rw [tot_app]; simp [tot] at h3 ⊢; omega⟩
  rw [← world_app (M := M) rfl hN]
  refine va_P.app (hP.kept (fun k x hx => o1 x.1 ((hP k x hx).lt))) (fun k x hx => ?_)
  have hz : k < 1 := (List.getElem?_eq_some_iff.mp hx).1
  rw [show k = 0 by omega] at hx
  cases hx
  exact hat
theorem mzs_lt {M : Mem} {a b : Nat} (h : b < a) (i : Int) : mzs M a b i = M b i := if_neg (by omega)
theorem mzs_self {M : Mem} {a : Nat} (i : Int) : mzs M a a i = 0 := if_pos (Nat.le_refl a)
theorem sh_aald (hx : p.tables.exec = Jvm.exec) (hb : c.code = cc) (hC : CK D cA base tt s args) (hown : s.vm.findClass (cN own) = some m.cls) (hH : HI D cA base tt s MC MS Sf S M H locs cells slots) (hL : LR (ph base tt) nL mls ls) (hst : ∀ v ∈ mst, okV v) (hd : decode cc pc = .ok (.aaload, 1)) (ha : aAald pc mls mst S M = some (.inl (pc', mls', mst', S', M'))) (K : KK p l e R s m args below meth c Q D cA base tt nL MC MS Sf pc' mls' mst' S' M') : W p l e R s m args below meth c H locs cells slots Q (F0 m pc ls (mst.map (rv (ph base tt)))) := by
  unfold aAald at ha
  obtain ⟨hP, hS, hM, hSl, -⟩ := id hH
  split at ha
  · next i a rest =>
    have hir : inR i := okh hst
    split at ha
    · next kd n rf hs =>
      split at ha
      · next hc =>
        obtain ⟨hk, h0, h2⟩ := hc
        obtain ⟨rfl, rfl, rfl, rfl, rfl⟩ := go_inj ha
        have hat := world_at (base := base) (f := ph base tt) (cA := cA) (M := M) hs
        rw [cellE_ref hk] at hat
        have hr : rv (ph base tt) (vR (some a)) = .ref (base + a) := by show Value.ref (ph base tt a) = _; rw [ph_lt (S_lt hs hSl).2]
        rw [List.map_cons, List.map_cons, hr]
        have hin := i32_in hir h0 h2
        have hlt : (Int32.ofInt i).toNatClampNeg < n := Nat.not_le.mp fun q => hin (Or.inr q)
        have K1 := K H locs cells slots ls hH hL (ok1 (okt (okt hst)) (v := vR (rf.getD i.toNat none)) trivial)
        have hv : (arrV (cA kd) n (fun j => va_rf ((rf.getD j none).map (ph base tt)))).slots[(Int32.ofInt i).toNatClampNeg]? = some (rv (ph base tt) (vR (rf.getD i.toNat none))) := by
          rw [arrV_read _ _ hlt, i32_clamp hir]
          rfl
        rcases hk with rfl | rfl | rfl
        · exact W.aald (ty := .array .int) hx hb (hP a _ hat) ((hC.2.1.2 2 _ rfl).1 n (fun j => va_rf ((rf.getD j none).map (ph base tt)))) rfl (fun q => by cases q) (by show ¬ (_ ∨ (arrV _ _ _).slots.size ≤ _); rw [arrV_size]; exact hin) hv rfl rfl hd K1
        · exact W.aald (ty := .object RX5) hx hb (hP a _ hat) ((hC.2.1.2 3 _ rfl).1 n (fun j => va_rf ((rf.getD j none).map (ph base tt)))) rfl (fun q => by cases q) (by show ¬ (_ ∨ (arrV _ _ _).slots.size ≤ _); rw [arrV_size]; exact hin) hv rfl rfl hd K1
        · exact W.aald (ty := .object RX6) hx hb (hP a _ hat) ((hC.2.1.2 4 _ rfl).1 n (fun j => va_rf ((rf.getD j none).map (ph base tt)))) rfl (fun q => by cases q) (by show ¬ (_ ∨ (arrV _ _ _).slots.size ≤ _); rw [arrV_size]; exact hin) hv rfl rfl hd K1
      · cases ha
    · cases ha
  · cases ha
theorem sh_aast (hx : p.tables.exec = Jvm.exec) (hb : c.code = cc) (hC : CK D cA base tt s args) (hown : s.vm.findClass (cN own) = some m.cls) (hH : HI D cA base tt s MC MS Sf S M H locs cells slots) (hL : LR (ph base tt) nL mls ls) (hst : ∀ v ∈ mst, okV v) (hd : decode cc pc = .ok (.aastore, 1)) (ha : aAast pc mls mst S M = some (.inl (pc', mls', mst', S', M'))) (K : KK p l e R s m args below meth c Q D cA base tt nL MC MS Sf pc' mls' mst' S' M') : W p l e R s m args below meth c H locs cells slots Q (F0 m pc ls (mst.map (rv (ph base tt)))) := by
  unfold aAast at ha
  obtain ⟨hP, hS, hM, hSl, -⟩ := id hH
  split at ha
  · next v i a rest =>
    have hir : inR i := okh (okt hst)
    split at ha
    · next kd n rf kv nv rfv hs hsv =>
      split at ha
      · next hc =>
        obtain ⟨hk, h0, h2, h3⟩ := hc
        obtain ⟨rfl, rfl, rfl, rfl, rfl⟩ := go_inj ha
        have hat := world_at (base := base) (f := ph base tt) (cA := cA) (M := M) hs
        rw [cellE_ref (by omega)] at hat
        have hatv := world_at (base := base) (f := ph base tt) (cA := cA) (M := M) hsv
        rw [cellE_obj (by omega)] at hatv
        obtain ⟨hal, ham⟩ := S_lt hs hSl
        have hr : rv (ph base tt) (vR (some a)) = .ref (base + a) := by show Value.ref (ph base tt a) = _; rw [ph_lt ham]
        have hrv : rv (ph base tt) (vR (some v)) = .ref (base + v) := by show Value.ref (ph base tt v) = _; rw [ph_lt (S_lt hsv hSl).2]
        rw [List.map_cons, List.map_cons, List.map_cons, hr, hrv]
        have hin := i32_in hir h0 h2
        have hfe : va_up (fun j => (rf.getD j none).map (ph base tt)) (Int32.ofInt i).toNatClampNeg (some (base + v)) = fun j => ((rf.set i.toNat (some v)).getD j none).map (ph base tt) := by
          funext j
          rw [i32_clamp hir]
          unfold va_up
          by_cases e : j = i.toNat
          · subst e
            simp [List.getD_eq_getElem?_getD, List.getElem?_set_self h3, ph_lt (base := base) (tt := tt) (S_lt hsv hSl).2]
          · simp [e, List.getD_eq_getElem?_getD, List.getElem?_set_ne (fun q => e q.symm)]
        have K1 : ∀ (H1 : Heap) (locs1 : List Loc), va_P D vwCl ((world base (ph base tt) cA S M).set a (base + a, .inl (cA kd, n, .inr (.inr (.inr (.inr (va_up (fun j => (rf.getD j none).map (ph base tt)) (Int32.ofInt i).toNatClampNeg (some (base + v))))))))) H1 → va_D (fun q => base ≤ q) ((world base (ph base tt) cA S M).set a (base + a, .inl (cA kd, n, .inr (.inr (.inr (.inr (va_up (fun j => (rf.getD j none).map (ph base tt)) (Int32.ofInt i).toNatClampNeg (some (base + v))))))))) → va_S (fun q => base ≤ q) s.heap H1 locs1 → W p l e R s m args below meth c H1 locs1 cells slots Q (F0 m (pc + 1) ls (rest.map (rv (ph base tt)))) := by
          intro H1 locs1 p1 _ p3
          rw [hfe, world_set (S' := S.set a (kd, n, rf.set i.toNat (some v))) (N := M) (List.getElem?_set_self hal) (by rw [cellE_ref (by omega)]) (fun b hb2 => S_set_ne hb2) (fun b _ j => rfl) hal] at p1
          exact K H1 locs1 cells slots ls (hH.put p1 p3 hM (List.length_set ..) (tot_set hs)) hL (okt (okt (okt hst)))
        rcases hk with ⟨rfl, rfl⟩ | ⟨rfl, rfl⟩
        · exact va_astq hx hb hC.2.1 hP world_D hS a 3 v 5 (r := (cN 5, Ct 5, fnum 5)) hat rfl hatv (cls_cl 5 (by decide)) hin hd K1
        · exact va_astq hx hb hC.2.1 hP world_D hS a 4 v 6 (r := (cN 6, Ct 6, fnum 6)) hat rfl hatv (cls_cl 6 (by decide)) hin hd K1
      · cases ha
    · cases ha
  · cases ha
theorem sh_alen (hx : p.tables.exec = Jvm.exec) (hb : c.code = cc) (hC : CK D cA base tt s args) (hown : s.vm.findClass (cN own) = some m.cls) (hH : HI D cA base tt s MC MS Sf S M H locs cells slots) (hL : LR (ph base tt) nL mls ls) (hst : ∀ v ∈ mst, okV v) (hd : decode cc pc = .ok (.arraylength, 1)) (ha : aAlen pc mls mst S M = some (.inl (pc', mls', mst', S', M'))) (K : KK p l e R s m args below meth c Q D cA base tt nL MC MS Sf pc' mls' mst' S' M') : W p l e R s m args below meth c H locs cells slots Q (F0 m pc ls (mst.map (rv (ph base tt)))) := by
  unfold aAlen at ha
  obtain ⟨hP, hS, hM, hSl, -⟩ := id hH
  split at ha
  · next a rest =>
    split at ha
    · next kd n rf hs =>
      split at ha
      · next hc =>
        obtain ⟨hk1, hk2, h2⟩ := hc
        obtain ⟨rfl, rfl, rfl, rfl, rfl⟩ := go_inj ha
        have hr : rv (ph base tt) (vR (some a)) = .ref (base + a) := by show Value.ref (ph base tt a) = _; rw [ph_lt (S_lt hs hSl).2]
        rw [List.map_cons, hr]
        have hat := world_at (base := base) (f := ph base tt) (cA := cA) (M := M) hs
        have K1 := K H locs cells slots ls hH hL (ok1 (okt hst) (v := vI (n : Int)) (show inR n from ⟨by omega, by omega⟩))
        have hv : Int32.ofNat n = Int32.ofInt (n : Int) := Int32.ofInt_eq_ofNat.symm
        rcases (show kd = 20 ∨ kd = 21 ∨ kd = 22 ∨ kd = 23 ∨ kd = 24 by omega) with rfl | rfl | rfl | rfl | rfl
        · rw [cellE_arr (Or.inl rfl)] at hat; exact va_alen hx hb hC.2.1 hP a 0 hat rfl hv hd K1
        · rw [cellE_arr (Or.inr rfl)] at hat; exact va_alen hx hb hC.2.1 hP a 1 hat rfl hv hd K1
        · rw [cellE_ref (Or.inl rfl)] at hat; exact va_alen hx hb hC.2.1 hP a 2 hat rfl hv hd K1
        · rw [cellE_ref (Or.inr (Or.inl rfl))] at hat; exact va_alen hx hb hC.2.1 hP a 3 hat rfl hv hd K1
        · rw [cellE_ref (Or.inr (Or.inr rfl))] at hat; exact va_alen hx hb hC.2.1 hP a 4 hat rfl hv hd K1
      · cases ha
    · cases ha
  · cases ha
theorem w_arrI : Cond.arrayClass FieldType.int ∈ tables_1 := by decide +kernel
theorem w_arrZ : Cond.arrayClass FieldType.boolean ∈ tables_1 := by decide +kernel
theorem sh_newaI (hx : p.tables.exec = Jvm.exec) (hb : c.code = cc) (hC : CK D cA base tt s args) (hown : s.vm.findClass (cN own) = some m.cls) (hg : S'.length ≤ Sf.length ∧ tot S' ≤ tot Sf) (hRc : R.cells = MC) (hRs : R.slots = MS) (hH : HI D cA base tt s MC MS Sf S M H locs cells slots) (hL : LR (ph base tt) nL mls ls) (hst : ∀ v ∈ mst, okV v) (hd : decode cc pc = .ok (.newarray .int, 2)) (ha : aNewa 20 pc mls mst S M = some (.inl (pc', mls', mst', S', M'))) (K : KK p l e R s m args below meth c Q D cA base tt nL MC MS Sf pc' mls' mst' S' M') : W p l e R s m args below meth c H locs cells slots Q (F0 m pc ls (mst.map (rv (ph base tt)))) := by
  unfold aNewa at ha
  obtain ⟨hP, hS, hM, hSl, h1, h2, h3⟩ := id hH
  split at ha
  · next n rest =>
    have hnr : inR n := okh hst
    split at ha
    · next hc =>
      obtain ⟨hn0, hn1, hl⟩ := hc
      obtain ⟨rfl, rfl, rfl, rfl, rfl⟩ := go_inj ha
      simp only [List.length_append, List.length_cons, List.length_nil, tot_app] at hg
      have ht1 : tot [(20, n.toNat, ([] : List (Option Nat)))] = n.toNat := by simp [tot]
      rw [ht1] at hg
      refine W_size (fun hz => ?_)
      have hsz := hH.size hC.2.2.2.1 hz
      rw [List.map_cons]
      have hn5 : n.toNat ≤ 10000 := by omega
      have hby : n.toNat * componentBytes (newarray.typeOf .int) ≤ 536870912 := by
        have h9 : componentBytes (newarray.typeOf .int) ≤ 8 := by decide
        have h8 := Nat.mul_le_mul hn5 h9
        omega
      refine va_newaK (atype := .int) hx hb (hC.1 _ (tb_in w_arrI)) (g := F0 m pc ls (rv (ph base tt) (vI n) :: rest.map (rv (ph base tt)))) rfl hd rfl (i32_neg hnr hn0) (i32_clamp hnr) hby (by rw [hRc]; omega) (by rw [hRs]; omega) hsz (fun H1 cA1 e1 z1 o1 hAr hNm => ?_)
      have hcA : cA1 = cA 20 := Option.some.inj (hNm.symm.trans (hC.2.1.2 0 _ rfl).2)
      subst hcA
      have K1 := K H1 locs (cells + 1) (slots + n.toNat) ls (hH.push (h := (20, n.toNat, [])) hl hC.2.2.2.1 hsz (fun q hq => o1 q (by omega)) (by omega) (by rw [cellE_arr (Or.inl rfl)]; show H1[base + S.length]? = some (vp_cell _ _); rw [vp_cell_i, e1]; congr 2; funext j; rw [mzs_self]; rfl) (fun b hb2 i => mzs_lt hb2 i) (mzs_R hM)) hL (ok1 (okt hst) (v := vR (some S.length)) trivial)
      have hr : rv (ph base tt) (vR (some S.length)) = .ref (base + S.length) := by show Value.ref (ph base tt _) = _; rw [ph_lt hl]
      rw [List.map_cons, hr] at K1
      exact K1
    · cases ha
  · cases ha
theorem sh_newaZ (hx : p.tables.exec = Jvm.exec) (hb : c.code = cc) (hC : CK D cA base tt s args) (hown : s.vm.findClass (cN own) = some m.cls) (hg : S'.length ≤ Sf.length ∧ tot S' ≤ tot Sf) (hRc : R.cells = MC) (hRs : R.slots = MS) (hH : HI D cA base tt s MC MS Sf S M H locs cells slots) (hL : LR (ph base tt) nL mls ls) (hst : ∀ v ∈ mst, okV v) (hd : decode cc pc = .ok (.newarray .boolean, 2)) (ha : aNewa 21 pc mls mst S M = some (.inl (pc', mls', mst', S', M'))) (K : KK p l e R s m args below meth c Q D cA base tt nL MC MS Sf pc' mls' mst' S' M') : W p l e R s m args below meth c H locs cells slots Q (F0 m pc ls (mst.map (rv (ph base tt)))) := by
  unfold aNewa at ha
  obtain ⟨hP, hS, hM, hSl, h1, h2, h3⟩ := id hH
  split at ha
  · next n rest =>
    have hnr : inR n := okh hst
    split at ha
    · next hc =>
      obtain ⟨hn0, hn1, hl⟩ := hc
      obtain ⟨rfl, rfl, rfl, rfl, rfl⟩ := go_inj ha
      simp only [List.length_append, List.length_cons, List.length_nil, tot_app] at hg
      have ht1 : tot [(21, n.toNat, ([] : List (Option Nat)))] = n.toNat := by simp [tot]
      rw [ht1] at hg
      refine W_size (fun hz => ?_)
      have hsz := hH.size hC.2.2.2.1 hz
      rw [List.map_cons]
      have hn5 : n.toNat ≤ 10000 := by omega
      have hby : n.toNat * componentBytes (newarray.typeOf .boolean) ≤ 536870912 := by
        have h9 : componentBytes (newarray.typeOf .boolean) ≤ 8 := by decide
        have h8 := Nat.mul_le_mul hn5 h9
        omega
      refine va_newaK (atype := .boolean) hx hb (hC.1 _ (tb_in w_arrZ)) (g := F0 m pc ls (rv (ph base tt) (vI n) :: rest.map (rv (ph base tt)))) rfl hd rfl (i32_neg hnr hn0) (i32_clamp hnr) hby (by rw [hRc]; omega) (by rw [hRs]; omega) hsz (fun H1 cA1 e1 z1 o1 hAr hNm => ?_)
      have hcA : cA1 = cA 21 := Option.some.inj (hNm.symm.trans (hC.2.1.2 1 _ rfl).2)
      subst hcA
      have K1 := K H1 locs (cells + 1) (slots + n.toNat) ls (hH.push (h := (21, n.toNat, [])) hl hC.2.2.2.1 hsz (fun q hq => o1 q (by omega)) (by omega) (by rw [cellE_arr (Or.inr rfl)]; show H1[base + S.length]? = some (vp_cell _ _); rw [vp_cell_i, e1]; congr 2; funext j; rw [mzs_self]; rfl) (fun b hb2 i => mzs_lt hb2 i) (mzs_R hM)) hL (ok1 (okt hst) (v := vR (some S.length)) trivial)
      have hr : rv (ph base tt) (vR (some S.length)) = .ref (base + S.length) := by show Value.ref (ph base tt _) = _; rw [ph_lt hl]
      rw [List.map_cons, hr] at K1
      exact K1
    · cases ha
  · cases ha
theorem sh_newq (hx : p.tables.exec = Jvm.exec) (hb : c.code = cc) (hC : CK D cA base tt s args) (hown : s.vm.findClass (cN own) = some m.cls) (hix : idx < 1000) (hg : S'.length ≤ Sf.length ∧ tot S' ≤ tot Sf) (hRc : R.cells = MC) (hRs : R.slots = MS) (hH : HI D cA base tt s MC MS Sf S M H locs cells slots) (hL : LR (ph base tt) nL mls ls) (hst : ∀ v ∈ mst, okV v) (hd : decode cc pc = .ok (.anewarray idx, 3)) (ha : aNewq (own * 1000 + idx) pc mls mst S M = some (.inl (pc', mls', mst', S', M'))) (K : KK p l e R s m args below meth c Q D cA base tt nL MC MS Sf pc' mls' mst' S' M') : W p l e R s m args below meth c H locs cells slots Q (F0 m pc ls (mst.map (rv (ph base tt)))) := by
  unfold aNewq at ha
  obtain ⟨hP, hS, hM, hSl, h1, h2, h3⟩ := id hH
  split at ha
  · next n rest ci hk =>
    have hnr : inR n := okh hst
    split at ha
    · next hc =>
      obtain ⟨hn0, hn1, hci, hl⟩ := hc
      obtain ⟨rfl, rfl, rfl, rfl, rfl⟩ := go_inj ha
      have hw := wK _ (lk_mem hk)
      unfold wordK at hw
      rw [(key_div hix).1, (key_div hix).2] at hw
      simp only [List.length_append, List.length_cons, List.length_nil, tot_app] at hg
      have ht1 : tot [(ci + 18, n.toNat, List.replicate n.toNat (none : Option Nat))] = n.toNat := by simp [tot]
      rw [ht1] at hg
      refine W_size (fun hz => ?_)
      have hsz := hH.size hC.2.2.2.1 hz
      rw [List.map_cons]
      have hcK : cK ci = cN ci := by unfold cK; rw [if_neg (by omega)]
      rw [hcK] at hw
      have hov : (Cond.arrayOver (.object (cN ci))).before args s = true := by
        rcases hci with rfl | rfl
        · exact va_AO.use hC.2.2.2.2.1
        · exact va_AO.use hC.2.2.2.2.2.1
      refine W.anew hx hb hown (hC.1 _ (tb_in hw)) hov (g := F0 m pc ls (rv (ph base tt) (vI n) :: rest.map (rv (ph base tt)))) rfl hd rfl (i32_neg hnr hn0) (by rw [i32_clamp hnr]; omega) (by rw [hRc]; omega) (by rw [hRs, i32_clamp hnr]; omega) (fun cA1 kA comp f1 f2 f3 f4 => ?_)
      rw [i32_clamp hnr]
      have hcA : cA1 = cA (ci + 18) := by
        rcases hci with rfl | rfl
        · obtain ⟨-, -, -, -, -, f5⟩ := (hC.2.1.2 3 _ rfl).2
          exact Option.some.inj (f1.symm.trans f5)
        · obtain ⟨-, -, -, -, -, f5⟩ := (hC.2.1.2 4 _ rfl).2
          exact Option.some.inj (f1.symm.trans f5)
      subst hcA
      generalize hH1 : H.push ({ cls := cA (ci + 18), slots := Array.replicate n.toNat .null, vm := .none } : Cell) = H1
      have z1 : H1.size = H.size + 1 := by rw [← hH1, Array.size_push]
      have e1 : H1[H.size]? = some (arrV (cA (ci + 18)) n.toNat (fun _ => .null)) := by rw [← hH1, Array.getElem?_push_size, ← arrV_new]
      have o1 : ∀ q : Nat, q < H.size → H1[q]? = H[q]? := fun q hq => by rw [← hH1, Array.getElem?_push, if_neg (Nat.ne_of_lt hq)]
      have K1 := K H1 locs (cells + 1) (slots + n.toNat) ls (hH.push (h := (ci + 18, n.toNat, List.replicate n.toNat none)) hl hC.2.2.2.1 hsz o1 z1 (by rw [cellE_ref (by omega)]; show H1[base + S.length]? = some (vp_cell _ _); rw [vp_cell_q, ← hsz, e1]; congr 2; funext j; simp [List.getD_eq_getElem?_getD, List.getElem?_replicate]; split <;> rfl) (fun b hb2 i => mzs_lt hb2 i) (mzs_R hM)) hL (ok1 (okt hst) (v := vR (some S.length)) trivial)
      have hr : rv (ph base tt) (vR (some S.length)) = .ref H.size := by show Value.ref (ph base tt _) = _; rw [ph_lt hl, hsz]
      rw [List.map_cons, hr] at K1
      exact K1
    · cases ha
  · cases ha
theorem sh_new (hx : p.tables.exec = Jvm.exec) (hb : c.code = cc) (hC : CK D cA base tt s args) (hown : s.vm.findClass (cN own) = some m.cls) (hix : idx < 1000) (hg : S'.length ≤ Sf.length ∧ tot S' ≤ tot Sf) (hRc : R.cells = MC) (hRs : R.slots = MS) (hH : HI D cA base tt s MC MS Sf S M H locs cells slots) (hL : LR (ph base tt) nL mls ls) (hst : ∀ v ∈ mst, okV v) (hd : decode cc pc = .ok (.new idx, 3)) (ha : aNew (own * 1000 + idx) pc mls mst S M = some (.inl (pc', mls', mst', S', M'))) (K : KK p l e R s m args below meth c Q D cA base tt nL MC MS Sf pc' mls' mst' S' M') : W p l e R s m args below meth c H locs cells slots Q (F0 m pc ls (mst.map (rv (ph base tt)))) := by
  unfold aNew at ha
  obtain ⟨hP, hS, hM, hSl, h1, h2, h3⟩ := id hH
  split at ha
  · next ci hk =>
    split at ha
    · next hc =>
      obtain ⟨hci, hl⟩ := hc
      obtain ⟨rfl, rfl, rfl, rfl, rfl⟩ := go_inj ha
      have hw := wK _ (lk_mem hk)
      unfold wordK at hw
      rw [(key_div hix).1, (key_div hix).2] at hw
      simp only [List.length_append, List.length_cons, List.length_nil, tot_app] at hg
      have ht1 : tot [(ci, fnum ci, List.replicate (fnum ci) (none : Option Nat))] = fnum ci := by simp [tot]
      rw [ht1] at hg
      refine W_size (fun hz => ?_)
      have hsz := hH.size hC.2.2.2.1 hz
      have hcK : cK ci = cN ci := by unfold cK; rw [if_neg (by omega)]
      rw [hcK] at hw
      have hKn := hC.2.1.1 ci _ (cls_cl ci hci)
      refine W.newcK hx hb hown (hC.1 _ (tb_in hw)) (hC.1 _ (tb_in (cls_inst ci hci).1)) (hC.1 _ (tb_in (cls_inst ci hci).2)) rfl hd (by rw [hRc]; omega) (by rw [hRs]; omega) hKn.2.1 hsz (fun H1 kC hkC e1 z1 o1 => ?_)
      have K1 := K H1 locs (cells + 1) (slots + fnum ci) ls (hH.push (h := (ci, fnum ci, List.replicate (fnum ci) none)) hl hC.2.2.2.1 hsz (fun q hq => o1 q (by omega)) (by omega) (by
        rw [cellE_obj hci]
        refine ⟨_, cls_cl ci hci, (u_born (Cty ci) hC.1 (cls_in hci) hKn hkC e1 (cls_ty ci hci)).to (fun j hj => ?_)⟩
        obtain ⟨t0, t1, t2, t3⟩ := cls_fty ci hci j hj
        unfold vp_V
        rw [List.getD_eq_getElem?_getD, List.getElem?_map, List.getElem?_range hj]
        show defaultValue (Cty ci j) = slotV _ _ _ _ _ j
        unfold slotV
        rcases (show fty ci j = 0 ∨ fty ci j = 1 ∨ fty ci j = 2 by omega) with q | q | q
        · rw [if_neg (by omega), t0 q, mzs_self]; rfl
        · rw [if_pos q]
          have h9 : (List.replicate (fnum ci) (none : Option Nat)).getD j none = none := by rw [List.getD_eq_getElem?_getD, List.getElem?_replicate]; split <;> rfl
          rw [h9]
          have h8 := t1 q
          revert h8
          cases Cty ci j <;> intro h8 <;> first | rfl | cases h8
        · rw [if_neg (by omega), t2 q, mzs_self]; rfl) (fun b hb2 i => mzs_lt hb2 i) (mzs_R hM)) hL (ok1 hst (v := vR (some S.length)) trivial)
      have hr : rv (ph base tt) (vR (some S.length)) = .ref (base + S.length) := by show Value.ref (ph base tt _) = _; rw [ph_lt hl]
      rw [List.map_cons, hr] at K1
      exact K1
    · cases ha
  · cases ha
theorem sh_ldc (hx : p.tables.exec = Jvm.exec) (hb : c.code = cc) (hC : CK D cA base tt s args) (hown : s.vm.findClass (cN own) = some m.cls) (hix : idx < 1000) (hH : HI D cA base tt s MC MS Sf S M H locs cells slots) (hL : LR (ph base tt) nL mls ls) (hst : ∀ v ∈ mst, okV v) (hd : decode cc pc = .ok (.ldc idx, 2)) (ha : aLdc (own * 1000 + idx) pc 2 mls mst S M = some (.inl (pc', mls', mst', S', M'))) (K : KK p l e R s m args below meth c Q D cA base tt nL MC MS Sf pc' mls' mst' S' M') : W p l e R s m args below meth c H locs cells slots Q (F0 m pc ls (mst.map (rv (ph base tt)))) := by
  unfold aLdc at ha
  split at ha
  · next x hk =>
    obtain ⟨hr, rfl, rfl, rfl, rfl, rfl⟩ := pI_inj ha
    have hw := wC _ (lk_mem hk)
    unfold wordC at hw
    rw [(key_div hix).1, (key_div hix).2] at hw
    exact lv_ldc hx hb hown (hC.1 _ (tb_in hw)) hd (K H locs cells slots ls hH hL (ok1 hst hr))
  · cases ha
theorem sh_ldcw (hx : p.tables.exec = Jvm.exec) (hb : c.code = cc) (hC : CK D cA base tt s args) (hown : s.vm.findClass (cN own) = some m.cls) (hix : idx < 1000) (hH : HI D cA base tt s MC MS Sf S M H locs cells slots) (hL : LR (ph base tt) nL mls ls) (hst : ∀ v ∈ mst, okV v) (hd : decode cc pc = .ok (.ldc_w idx, 3)) (ha : aLdc (own * 1000 + idx) pc 3 mls mst S M = some (.inl (pc', mls', mst', S', M'))) (K : KK p l e R s m args below meth c Q D cA base tt nL MC MS Sf pc' mls' mst' S' M') : W p l e R s m args below meth c H locs cells slots Q (F0 m pc ls (mst.map (rv (ph base tt)))) := by
  unfold aLdc at ha
  split at ha
  · next x hk =>
    obtain ⟨hr, rfl, rfl, rfl, rfl, rfl⟩ := pI_inj ha
    have hw := wC _ (lk_mem hk)
    unfold wordC at hw
    rw [(key_div hix).1, (key_div hix).2] at hw
    exact lv_ldcw hx hb hown (hC.1 _ (tb_in hw)) hd (K H locs cells slots ls hH hL (ok1 hst hr))
  · cases ha
theorem sh_ldc2 (hx : p.tables.exec = Jvm.exec) (hb : c.code = cc) (hC : CK D cA base tt s args) (hown : s.vm.findClass (cN own) = some m.cls) (hix : idx < 1000) (hH : HI D cA base tt s MC MS Sf S M H locs cells slots) (hL : LR (ph base tt) nL mls ls) (hst : ∀ v ∈ mst, okV v) (hd : decode cc pc = .ok (.ldc2_w idx, 3)) (ha : aLdc2 (own * 1000 + idx) pc mls mst S M = some (.inl (pc', mls', mst', S', M'))) (K : KK p l e R s m args below meth c Q D cA base tt nL MC MS Sf pc' mls' mst' S' M') : W p l e R s m args below meth c H locs cells slots Q (F0 m pc ls (mst.map (rv (ph base tt)))) := by
  unfold aLdc2 at ha
  split at ha
  · next x hk =>
    obtain ⟨hr, rfl, rfl, rfl, rfl, rfl⟩ := pL_inj ha
    have hw := wL _ (lk_mem hk)
    unfold wordL at hw
    rw [(key_div hix).1, (key_div hix).2] at hw
    exact lv_ldc2 hx hb hown (hC.1 _ (tb_in hw)) hd (K H locs cells slots ls hH hL (ok1 hst hr))
  · cases ha
theorem sh_gets (hx : p.tables.exec = Jvm.exec) (hb : c.code = cc) (hC : CK D cA base tt s args) (hown : s.vm.findClass (cN own) = some m.cls) (hix : idx < 1000) (hH : HI D cA base tt s MC MS Sf S M H locs cells slots) (hL : LR (ph base tt) nL mls ls) (hst : ∀ v ∈ mst, okV v) (hd : decode cc pc = .ok (.getstatic idx, 3)) (ha : aGets (own * 1000 + idx) pc mls mst S M = some (.inl (pc', mls', mst', S', M'))) (K : KK p l e R s m args below meth c Q D cA base tt nL MC MS Sf pc' mls' mst' S' M') : W p l e R s m args below meth c H locs cells slots Q (F0 m pc ls (mst.map (rv (ph base tt)))) := by
  unfold aGets at ha
  split at ha
  · next j hk =>
    split at ha
    · next hj =>
      obtain ⟨rfl, rfl, rfl, rfl, rfl⟩ := go_inj ha
      have hw := wS _ (lk_mem hk)
      unfold wordS at hw
      rw [(key_div hix).1, (key_div hix).2] at hw
      have K1 := K H locs cells slots ls hH hL (ok1 hst (v := vR (some (1000000 + j))) trivial)
      have hr : rv (ph base tt) (vR (some (1000000 + j))) = .ref (tt j) := by show Value.ref (ph base tt (1000000 + j)) = _; rw [ph_st]
      rw [List.map_cons, hr] at K1
      exact va_gets hx hb (hC.2.2.1 j hj).1 hH.2.1 hown (hC.1 _ (tb_in hw)) (fun x h => h) hd K1
    · cases ha
  · cases ha
end SIMH2
