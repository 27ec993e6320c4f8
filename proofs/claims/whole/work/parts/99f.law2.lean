def lawPool : List (Nat × Nat) := [(13, 85), (17, 126), (18, 86), (21, 127), (22, 87), (26, 128), (27, 88), (31, 129), (32, 89), (35, 130), (36, 90), (40, 140), (41, 91), (44, 141), (45, 92), (48, 155), (49, 93), (53, 158), (54, 94), (57, 160), (58, 95), (61, 161), (62, 96), (65, 162), (66, 97), (69, 163), (70, 98), (73, 164), (74, 99), (77, 169), (78, 100), (81, 170), (82, 101), (85, 172), (86, 102), (89, 173), (90, 103), (93, 174), (94, 104), (97, 176), (98, 105), (101, 179), (102, 106), (106, 183), (107, 107), (110, 184), (111, 108), (114, 186), (115, 109), (118, 187), (119, 110), (122, 188), (123, 111), (126, 189), (127, 112), (130, 191), (131, 113), (134, 201), (135, 114), (138, 202), (139, 115), (142, 204), (143, 116), (146, 205)]
set_option maxRecDepth 100000 in
theorem lawL : ∀ q ∈ lawPool, Cond.methodLink R_law q.1 (mY q.2) ∈ tables_1 ∧ q.2 < 206 ∧ mS q.2 = false ∧ (mY q.2).name ≠ "<init>" := by decide +kernel
set_option maxRecDepth 100000 in
theorem lawC7 : Cond.classLink R_law 7 (cN 7) ∈ tables_1 ∧ Cond.classLink R_law 10 (cN 8) ∈ tables_1 ∧ Cond.methodLink R_law 9 (mY 84) ∈ tables_1 ∧ Cond.methodLink R_law 12 (mY 121) ∈ tables_1 := by decide +kernel

theorem ys_rv (f : Nat → Nat) : ∀ ys : List Int32, (ys.map (fun y => vI y.toInt)).map (rv f) = ys.map Value.int
  | [] => rfl
  | y :: ys => by
    show Value.int (Int32.ofInt y.toInt) :: _ = _
    rw [Int32.ofInt_toInt]
    exact congrArg (Value.int y :: ·) (ys_rv f ys)
theorem ys_len : ∀ ys : List Int32, (eLoc (ys.map (fun y => vI y.toInt))).length = ys.length
  | [] => rfl
  | y :: ys => congrArg (· + 1) (ys_len ys)
theorem tp_image {d : Nat} {M : Mem} {k : Int} (h : Rel M) : Two (d + 24) 109 187 [some (vR (some 0)), some (vI k)] [some (vR (some 273)), some (vI k), none] M := by
  rcases (show k = 0 ∨ k = 1 ∨ (k < 0 ∨ 1 < k) by omega) with q | q | q
  · rw [q]; exact tp_image_0 h
  · rw [q]; exact tp_image_1 h
  · exact tp_image_b h q
theorem tp_restore {d : Nat} {M : Mem} {k : Int} (h : Rel M) : Two (d + 24) 110 188 [some (vR (some 0)), some (vI k)] [some (vR (some 273)), some (vI k), none] M := by
  rcases (show k = 0 ∨ k = 1 ∨ (k < 0 ∨ 1 < k) by omega) with q | q | q
  · rw [q]; exact tp_restore_0 h
  · rw [q]; exact tp_restore_1 h
  · exact tp_restore_b h q
def LC (p : Program) (s : State) (m : MethodId) (c : Code) (b L : Nat) (xs : Nat → Int32) (D : va_G) (cA : Nat → ClassId) (tt : Nat → Nat) : Prop := p.tables.exec = Jvm.exec ∧ c.code = code ∧ c.maxLocals = 4 ∧ s.vm.findClass R_law = some m.cls ∧ CK D cA s.heap.size tt s #[Value.ref b] ∧ va_X b L xs s s.heap ∧ b < s.heap.size ∧ L ≤ 384
section LAW2
variable {p : Program} {l : Launch} {e : Env} {s : State} {m : MethodId} {b L : Nat} {xs : Nat → Int32} {below : List Frame} {meth : Method} {c : Code} {H : Heap} {locs : List Loc} {Q : State → Prop}
variable {pc : Nat} {ls : Array Slot} {D : va_G} {cA : Nat → ClassId} {tt : Nat → Nat} {M M1 : Mem} {t : Int} {rest : List Value} {x1 x2 : Value}
theorem lawArg (hLC : LC p s m c b L xs D cA tt) (hl : lv_has ls 4 [(0, .ref b), (1, x1), (2, x2), (3, .int (Int32.ofInt t))]) (hH : LIS D cA tt s SS M H locs) (ht : 0 ≤ t ∧ t + 6 ≤ L) {j : Int} (hj : 0 ≤ j ∧ j < 6) (d0 : decode code pc = .ok (.aload_n 0, 1)) (d1 : decode code (pc + 1) = .ok (.iload_n 3, 1)) (d2 : decode code (pc + 1 + 1) = .ok (.iconst j, 1)) (d3 : decode code (pc + 1 + 1 + 1) = .ok (.iadd, 1)) (d4 : decode code (pc + 1 + 1 + 1 + 1) = .ok (.iaload, 1))
    (K : W p l e room_1 s m #[Value.ref b] below meth c H locs SS.length (tot SS) Q (F0 m (pc + 1 + 1 + 1 + 1 + 1) ls (.int (xs (t + j).toNat) :: rest))) : W p l e room_1 s m #[Value.ref b] below meth c H locs SS.length (tot SS) Q (F0 m pc ls rest) := by
  obtain ⟨hx, hb, hml, hown, hC, hX, hbl, hL⟩ := hLC
  refine lv_aload_n hx hb d0 rfl (lv_at hl 0 rfl) ?_
  refine lv_iload_n hx hb d1 rfl (lv_at hl 3 rfl) ?_
  refine lv_iconst (v := Int32.ofInt j) hx hb d2 rfl ?_
  refine lv_iadd hx hb d3 ?_
  rw [← Int32.ofInt_add]
  refine va_sld (A := fun q => s.heap.size ≤ q) hx hb hX hbl (by show ¬ s.heap.size ≤ b; omega) hH.2.1 (i32_in ⟨by omega, by omega⟩ (by omega) (by omega)) d4 ?_
  rw [i32_clamp ⟨by omega, by omega⟩]
  exact K
theorem lawV2 {n d mid' a idx o nn k : Nat} {rf : List (Option Nat)} {ys : List Int32} {z : Int} (hLC : LC p s m c b L xs D cA tt) (hl : lv_has ls 4 [(0, .ref b), (1, x1), (2, x2), (3, .int (Int32.ofInt t))]) (hH : LIS D cA tt s SS M H locs)
    (hrun : run n d mid' 0 (entryL mid' (vR (some a) :: ys.map (fun y => vI y.toInt))) [] SS M = some (some (vI z), SS, M1)) (hq : (idx, mid') ∈ lawPool) (hmp : ys.length = mP mid') (hml2 : mL mid' = k) (hk : ys.length + 1 ≤ k) (hsa : SS[a]? = some (o, nn, rf)) (ho : mOwn mid' = o) (hd : d ≤ 100) (hdg : decode code pc = .ok (.invokevirtual idx, 3)) (hcat : (rest.map fun v => v.category).sum ≤ 8)
    (K : ∀ H1 locs1, LIS D cA tt s SS M1 H1 locs1 → W p l e room_1 s m #[Value.ref b] below meth c H1 locs1 SS.length (tot SS) Q (F0 m (pc + 3) ls (.int (Int32.ofInt z) :: rest))) : W p l e room_1 s m #[Value.ref b] below meth c H locs SS.length (tot SS) Q (F0 m pc ls ((ys.map Value.int).reverse ++ .ref (s.heap.size + a) :: rest)) := by
  obtain ⟨hx, hb, hml, hown, hC, hX, hbl, hL⟩ := hLC
  obtain ⟨w1, w2, w3, w4⟩ := lawL _ hq
  have q := lawV (l := l) (e := e) (below := below) (meth := meth) (Q := Q) (pc := pc) (ls := ls) (rest := rest) hx hb hml hown hC hH hl.1 hrun w2 w3 w4 (by rw [List.length_map]; exact hmp) (by rw [ho]; exact hsa) w1 hd (by rw [hml2]; show (eLoc (ys.map (fun y => vI y.toInt))).length + 1 ≤ k; rw [ys_len]; exact hk) (fun v hv => by
    obtain ⟨y, -, rfl⟩ := List.mem_map.mp hv
    exact inR_toInt y) hdg hcat (fun H1 locs1 h1 _ => K H1 locs1 h1)
  rw [ys_rv] at q
  exact q
end LAW2
