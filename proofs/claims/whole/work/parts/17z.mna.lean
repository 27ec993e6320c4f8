theorem mna_outer (c : ClassId) (N h0 : Nat) : ∀ i : Nat, Jvm.Free.Multi.outerC c N h0 i = arrV c N (fun j => va_rf (if j < i then some (h0 + 1 + j) else none))
  | 0 => by
    show ({ cls := c, slots := Array.replicate N .null, vm := .none } : Cell) = _
    rw [arrV_new]
    refine congrArg (arrV c N) (funext fun j => ?_)
    simp [va_rf]
  | i + 1 => by
    show (Jvm.Free.Multi.outerC c N h0 i).setSlot i (.ref (h0 + 1 + i)) = _
    rw [mna_outer c N h0 i, arrV_store]
    refine congrArg (arrV c N) (funext fun j => ?_)
    by_cases e : j = i
    · subst e
      simp [updV, va_rf]
    · by_cases h : j < i
      · simp [updV, e, h, Nat.lt_succ_of_lt h]
      · simp [updV, e, h, show ¬ j < i + 1 by omega]
theorem mna_str : "[" ++ (FieldType.array FieldType.int).toString = "[[I" := by decide +kernel
theorem mna_str2 : (FieldType.array FieldType.int).toString = "[" ++ FieldType.int.toString := by decide +kernel
theorem mna_tot (n k : Nat) : tot (List.replicate n ((20, k, []) : Sh)) = n * k := by
  unfold tot
  rw [List.map_replicate, List.sum_replicate_nat]
set_option maxHeartbeats 4000000 in
theorem mna (l : Launch) : MNA l := by
  intro p e R s m args below meth c H locs cells slots Q cc pc ls D cA base tt nL MC MS Sf S S' M M' mls mls' mst mst' pc' own idx hx hb hC hown hix hg hRc hRs hH hL hst hd ha K
  unfold aNewm at ha
  obtain ⟨hP, hS, hM, hSl, h1, h2, h3⟩ := id hH
  split at ha
  · next k n rest ci hk =>
    have hkr : inR k := okh hst
    have hnr : inR n := okh (okt hst)
    split at ha
    · next hc =>
      obtain ⟨hn0, hn1, hk0, hk1, rfl, hl⟩ := hc
      obtain ⟨rfl, rfl, rfl, rfl, rfl⟩ := go_inj ha
      have hw := wK _ (lk_mem hk)
      unfold wordK at hw
      rw [(key_div hix).1, (key_div hix).2] at hw
      have hcK : cK 22 = "[" ++ (FieldType.array FieldType.int).toString := by rw [mna_str]; rfl
      rw [hcK] at hw
      have htot : tot ((22, n.toNat, (List.range n.toNat).map (fun i => some (S.length + 1 + i))) :: List.replicate n.toNat ((20, k.toNat, []) : Sh)) = n.toNat + n.toNat * k.toNat := by
        rw [show ((22, n.toNat, (List.range n.toNat).map (fun i => some (S.length + 1 + i))) :: List.replicate n.toNat ((20, k.toNat, []) : Sh)) = [(22, n.toNat, (List.range n.toNat).map (fun i => some (S.length + 1 + i)))] ++ List.replicate n.toNat ((20, k.toNat, []) : Sh) from rfl, tot_app, mna_tot]
        simp [tot]
      have hlen : (S ++ ((22, n.toNat, (List.range n.toNat).map (fun i => some (S.length + 1 + i))) :: List.replicate n.toNat ((20, k.toNat, []) : Sh))).length = S.length + 1 + n.toNat := by simp; omega
      rw [tot_app, htot, hlen] at hg
      refine W_size (fun hz => ?_)
      have hsz := hH.size hC.2.2.2.1 hz
      have hby4 : (Int32.ofInt k).toNatClampNeg * componentBytes FieldType.int ≤ 536870912 := by
        have h9 : componentBytes FieldType.int = 4 := rfl
        rw [i32_clamp hkr, h9]
        omega
      intro T hT Xs
      obtain ⟨vm₁, cA1, comp, -, fA, fC, hO, -, X', step⟩ := Xs.multianewarray2F hx (ty := .int) hown (hC.1 _ (tb_in hw)) hC.2.2.2.2.2.2.1 (hC.1 _ (tb_in w_arrI)) (g := F0 m pc ls ((vI k :: vI n :: rest).map (rv (ph base tt)))) rfl (by rw [hb]; exact hd) (n := Int32.ofInt n) (k := Int32.ofInt k) rfl (i32_neg hnr hn0) (i32_neg hkr hk0) (by rw [i32_clamp hnr]; omega) hby4 (by rw [i32_clamp hkr]; omega) rfl rfl (by rw [hRc, i32_clamp hnr]; omega) (by rw [hRs, i32_clamp hnr, i32_clamp hkr]; omega)
      rw [i32_clamp hnr, i32_clamp hkr] at X' step
      have e22 : cA1 = cA 22 := Option.some.inj (fA.symm.trans (hC.2.1.2 2 _ rfl).2)
      have e20 : comp = cA 20 := by
        have q := (hC.2.1.2 0 _ rfl).2
        rw [mna_str2] at fC
        exact Option.some.inj (fC.symm.trans q)
      subst e22
      subst e20
      generalize hF : Jvm.Free.Multi.fill (T.setVm vm₁) (cA 22) (cA 20) n.toNat k.toNat (defaultValue .int) n.toNat = F at X' step
      have hTh : (T.setVm vm₁).heap = H := hT
      obtain ⟨f1, f2, -, -⟩ := Jvm.Free.Multi.fill_facts (T.setVm vm₁) (cA 22) (cA 20) n.toNat k.toNat (defaultValue .int) n.toNat
      rw [hF, hTh] at f1 f2
      have hold : ∀ x : Nat, x < H.size → F.heap[x]? = H[x]? := fun x hx => by
        have q := Jvm.Free.Multi.fill_old (T.setVm vm₁) (cA 22) (cA 20) n.toNat k.toNat (defaultValue .int) (a := x) (by rw [hTh]; exact hx) n.toNat
        rw [hF, hTh] at q
        exact q
      have hrow : ∀ j : Nat, j < n.toNat → F.heap[H.size + 1 + j]? = some (Jvm.Free.Multi.innerC (cA 20) k.toNat (defaultValue .int)) := fun j hj => by
        have q := Jvm.Free.Multi.fill_inner (T.setVm vm₁) (cA 22) (cA 20) n.toNat k.toNat (defaultValue .int) n.toNat j hj
        rw [hF, hTh] at q
        exact q
      rw [mna_outer] at f2
      have hPn : va_P D vwCl (world base (ph base tt) cA (S ++ ((22, n.toNat, (List.range n.toNat).map (fun i => some (S.length + 1 + i))) :: List.replicate n.toNat (20, k.toNat, []))) (mzs M S.length)) F.heap := by
        intro b q hb2
        simp only [world, List.getElem?_mapIdx, Option.map_eq_some_iff] at hb2
        obtain ⟨h, hbS, rfl⟩ := hb2
        by_cases c1 : b < S.length
        · rw [List.getElem?_append_left c1] at hbS
          rw [cellE_congr (N := M) (fun i => mzs_lt c1 i)]
          have q1 := hP b _ (world_at hbS)
          exact q1.kept (hold _ (q1.lt))
        · rw [List.getElem?_append_right (by omega)] at hbS
          by_cases c2 : b = S.length
          · subst c2
            rw [Nat.sub_self] at hbS
            cases hbS
            rw [cellE_ref (Or.inl rfl)]
            show F.heap[base + S.length]? = some (vp_cell _ _)
            rw [vp_cell_q, ← hsz, f2]
            congr 2
            funext j
            by_cases c3 : j < n.toNat
            · simp only [if_pos c3, List.getD_eq_getElem?_getD, List.getElem?_map, List.getElem?_range c3, Option.map_some, Option.getD_some]
              rw [ph_lt (by omega)]
              rw [hsz]
              congr 2
              omega
            · simp only [if_neg c3, List.getD_eq_getElem?_getD]
              rw [List.getElem?_eq_none (by simp; omega)]
              rfl
          · obtain ⟨j, rfl⟩ : ∃ j, b = S.length + 1 + j := ⟨b - S.length - 1, by omega⟩
            rw [show S.length + 1 + j - S.length = j + 1 by omega, List.getElem?_cons_succ, List.getElem?_replicate] at hbS
            split at hbS
            · next hj =>
              cases hbS
              rw [cellE_arr (Or.inl rfl)]
              show F.heap[base + (S.length + 1 + j)]? = some (vp_cell _ _)
              rw [vp_cell_i, show base + (S.length + 1 + j) = H.size + 1 + j by omega, hrow j hj]
              show some ({ cls := cA 20, slots := Array.replicate k.toNat (defaultValue .int), vm := .none } : Cell) = _
              rw [arrV_new]
              congr 2
              funext i
              have q9 : mzs M S.length (S.length + 1 + j) (i : Int) = 0 := if_pos (by omega)
              rw [q9]
              rfl
            · cases hbS
      have K1 := K F.heap locs (cells + 1 + n.toNat) (slots + n.toNat + n.toNat * k.toNat) ls
        ⟨hPn, ⟨by rw [f1]; have := hS.1; omega, fun q q1 q2 => (hold q (by have := hS.1; omega)).trans (hS.2.1 q q1 q2), hS.2.2⟩, mzs_R hM, by rw [hlen]; omega, by rw [hlen]; omega, by rw [hlen]; omega, by rw [tot_app, htot]; omega⟩ hL (ok1 (okt (okt hst)) (v := vR (some S.length)) trivial)
      obtain ⟨t, a1, b1⟩ := K1 F rfl X'
      refine ⟨t, step t ?_, b1⟩
      have hr : rv (ph base tt) (vR (some S.length)) = .ref T.heap.size := by show Value.ref (ph base tt _) = _; rw [ph_lt (by omega), hT, hsz]
      rw [List.map_cons, hr] at a1
      exact a1
    · cases ha
  · cases ha
