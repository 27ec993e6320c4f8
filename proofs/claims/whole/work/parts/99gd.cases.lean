section LK24
variable {p : Program} {l : Launch} {e : Env} {s : State} {m : MethodId} {b L : Nat} {xs : Nat → Int32} {below : List Frame} {meth : Method} {c : Code} {H : Heap} {locs : List Loc} {Q : State → Prop}
variable {ls : Array Slot} {D : va_G} {cA : Nat → ClassId} {tt : Nat → Nat} {M : Mem} {t : Int}
theorem lk_24 (hLC : LC p s m c b L xs D cA tt) (hl : lv_has ls 4 [(0, .ref b), (1, .ref (s.heap.size + 0)), (2, .ref (s.heap.size + 273)), (3, .int (Int32.ofInt t))]) (ht : 0 ≤ t ∧ t + 6 ≤ L) (hH : LIS D cA tt s SS M H locs) (hr : Rel M) (K : ∀ M1 H1 locs1, Rel M1 → LIS D cA tt s SS M1 H1 locs1 → W p l e room_1 s m #[Value.ref b] below meth c H1 locs1 SS.length (tot SS) Q (F0 m 1092 ls [])) : W p l e room_1 s m #[Value.ref b] below meth c H locs SS.length (tot SS) Q (F0 m 898 ls []) := by
  obtain ⟨hx, hb, hml, hown, hC, hX, hbl, hL⟩ := id hLC
  refine lv_aload_n hx hb dl_898 rfl (lv_at hl 1 rfl) ?_
  refine lawArg (j := 1) hLC hl hH ht (by decide) dl_899 dl_900 dl_901 dl_902 dl_903 ?_
  have h2 : Two (0 + 24) 109 187 [some (vR (some 0)), some (vI ((xs (t + 1).toNat).toInt))] [some (vR (some 273)), some (vI ((xs (t + 1).toNat).toInt)), none] M := tp_image hr
  obtain ⟨n1, r1, M1, g1, n2, r2, M2, g2, z, e1, e2, hr2⟩ := h2
  subst e1
  subst e2
  show W p l e room_1 s m #[Value.ref b] below meth c H locs SS.length (tot SS) Q (F0 m 904 ls [.int (xs (t + 1).toNat), .ref (s.heap.size + 0)])
  refine lawV2 (ys := [xs (t + 1).toNat]) (idx := 115) hLC hl hH g1 (by decide) rfl (k := 2) rfl (Nat.le_of_ble_eq_true rfl) s_0 o_109 (by decide) dl_904 (by decide) (fun H1 locs1 hH1 => ?_)
  refine lv_aload_n hx hb dl_907 rfl (lv_at hl 2 rfl) ?_
  refine lawArg (j := 1) hLC hl hH1 ht (by decide) dl_908 dl_909 dl_910 dl_911 dl_912 ?_
  show W p l e room_1 s m #[Value.ref b] below meth c H1 locs1 SS.length (tot SS) Q (F0 m 913 ls [.int (xs (t + 1).toNat), .ref (s.heap.size + 273), .int (Int32.ofInt z)])
  refine lawV2 (ys := [xs (t + 1).toNat]) (idx := 118) hLC hl hH1 g2 (by decide) rfl (k := 3) rfl (Nat.le_of_ble_eq_true rfl) s_273 o_187 (by decide) dl_913 (by show 1 + 0 ≤ 8; decide) (fun H2 locs2 hH2 => ?_)
  exact lv_icmp_eq (tgt := 1092) hx hb dl_916 (by decide) (fun _ => K M2 H2 locs2 hr2 hH2) (fun q => absurd rfl q)

theorem lk_25 (hLC : LC p s m c b L xs D cA tt) (hl : lv_has ls 4 [(0, .ref b), (1, .ref (s.heap.size + 0)), (2, .ref (s.heap.size + 273)), (3, .int (Int32.ofInt t))]) (ht : 0 ≤ t ∧ t + 6 ≤ L) (hH : LIS D cA tt s SS M H locs) (hr : Rel M) (K : ∀ M1 H1 locs1, Rel M1 → LIS D cA tt s SS M1 H1 locs1 → W p l e room_1 s m #[Value.ref b] below meth c H1 locs1 SS.length (tot SS) Q (F0 m 1092 ls [])) : W p l e room_1 s m #[Value.ref b] below meth c H locs SS.length (tot SS) Q (F0 m 921 ls []) := by
  obtain ⟨hx, hb, hml, hown, hC, hX, hbl, hL⟩ := id hLC
  refine lv_aload_n hx hb dl_921 rfl (lv_at hl 1 rfl) ?_
  refine lawArg (j := 1) hLC hl hH ht (by decide) dl_922 dl_923 dl_924 dl_925 dl_926 ?_
  have h2 : Two (0 + 24) 110 188 [some (vR (some 0)), some (vI ((xs (t + 1).toNat).toInt))] [some (vR (some 273)), some (vI ((xs (t + 1).toNat).toInt)), none] M := tp_restore hr
  obtain ⟨n1, r1, M1, g1, n2, r2, M2, g2, z, e1, e2, hr2⟩ := h2
  subst e1
  subst e2
  show W p l e room_1 s m #[Value.ref b] below meth c H locs SS.length (tot SS) Q (F0 m 927 ls [.int (xs (t + 1).toNat), .ref (s.heap.size + 0)])
  refine lawV2 (ys := [xs (t + 1).toNat]) (idx := 119) hLC hl hH g1 (by decide) rfl (k := 2) rfl (Nat.le_of_ble_eq_true rfl) s_0 o_110 (by decide) dl_927 (by decide) (fun H1 locs1 hH1 => ?_)
  refine lv_aload_n hx hb dl_930 rfl (lv_at hl 2 rfl) ?_
  refine lawArg (j := 1) hLC hl hH1 ht (by decide) dl_931 dl_932 dl_933 dl_934 dl_935 ?_
  show W p l e room_1 s m #[Value.ref b] below meth c H1 locs1 SS.length (tot SS) Q (F0 m 936 ls [.int (xs (t + 1).toNat), .ref (s.heap.size + 273), .int (Int32.ofInt z)])
  refine lawV2 (ys := [xs (t + 1).toNat]) (idx := 122) hLC hl hH1 g2 (by decide) rfl (k := 3) rfl (Nat.le_of_ble_eq_true rfl) s_273 o_188 (by decide) dl_936 (by show 1 + 0 ≤ 8; decide) (fun H2 locs2 hH2 => ?_)
  exact lv_icmp_eq (tgt := 1092) hx hb dl_939 (by decide) (fun _ => K M2 H2 locs2 hr2 hH2) (fun q => absurd rfl q)

theorem lk_26 (hLC : LC p s m c b L xs D cA tt) (hl : lv_has ls 4 [(0, .ref b), (1, .ref (s.heap.size + 0)), (2, .ref (s.heap.size + 273)), (3, .int (Int32.ofInt t))]) (ht : 0 ≤ t ∧ t + 6 ≤ L) (hH : LIS D cA tt s SS M H locs) (hr : Rel M) (K : ∀ M1 H1 locs1, Rel M1 → LIS D cA tt s SS M1 H1 locs1 → W p l e room_1 s m #[Value.ref b] below meth c H1 locs1 SS.length (tot SS) Q (F0 m 1092 ls [])) : W p l e room_1 s m #[Value.ref b] below meth c H locs SS.length (tot SS) Q (F0 m 944 ls []) := by
  obtain ⟨hx, hb, hml, hown, hC, hX, hbl, hL⟩ := id hLC
  refine lv_aload_n hx hb dl_944 rfl (lv_at hl 1 rfl) ?_
  refine lawArg (j := 1) hLC hl hH ht (by decide) dl_945 dl_946 dl_947 dl_948 dl_949 ?_
  have h2 : Two (0 + 24) 111 189 [some (vR (some 0)), some (vI ((xs (t + 1).toNat).toInt))] [some (vR (some 273)), some (vI ((xs (t + 1).toNat).toInt))] M := tp_kind hr
  obtain ⟨n1, r1, M1, g1, n2, r2, M2, g2, z, e1, e2, hr2⟩ := h2
  subst e1
  subst e2
  show W p l e room_1 s m #[Value.ref b] below meth c H locs SS.length (tot SS) Q (F0 m 950 ls [.int (xs (t + 1).toNat), .ref (s.heap.size + 0)])
  refine lawV2 (ys := [xs (t + 1).toNat]) (idx := 123) hLC hl hH g1 (by decide) rfl (k := 2) rfl (Nat.le_of_ble_eq_true rfl) s_0 o_111 (by decide) dl_950 (by decide) (fun H1 locs1 hH1 => ?_)
  refine lv_aload_n hx hb dl_953 rfl (lv_at hl 2 rfl) ?_
  refine lawArg (j := 1) hLC hl hH1 ht (by decide) dl_954 dl_955 dl_956 dl_957 dl_958 ?_
  show W p l e room_1 s m #[Value.ref b] below meth c H1 locs1 SS.length (tot SS) Q (F0 m 959 ls [.int (xs (t + 1).toNat), .ref (s.heap.size + 273), .int (Int32.ofInt z)])
  refine lawV2 (ys := [xs (t + 1).toNat]) (idx := 126) hLC hl hH1 g2 (by decide) rfl (k := 2) rfl (Nat.le_of_ble_eq_true rfl) s_273 o_189 (by decide) dl_959 (by show 1 + 0 ≤ 8; decide) (fun H2 locs2 hH2 => ?_)
  exact lv_icmp_eq (tgt := 1092) hx hb dl_962 (by decide) (fun _ => K M2 H2 locs2 hr2 hH2) (fun q => absurd rfl q)

theorem lk_27 (hLC : LC p s m c b L xs D cA tt) (hl : lv_has ls 4 [(0, .ref b), (1, .ref (s.heap.size + 0)), (2, .ref (s.heap.size + 273)), (3, .int (Int32.ofInt t))]) (ht : 0 ≤ t ∧ t + 6 ≤ L) (hH : LIS D cA tt s SS M H locs) (hr : Rel M) (K : ∀ M1 H1 locs1, Rel M1 → LIS D cA tt s SS M1 H1 locs1 → W p l e room_1 s m #[Value.ref b] below meth c H1 locs1 SS.length (tot SS) Q (F0 m 1092 ls [])) : W p l e room_1 s m #[Value.ref b] below meth c H locs SS.length (tot SS) Q (F0 m 967 ls []) := by
  obtain ⟨hx, hb, hml, hown, hC, hX, hbl, hL⟩ := id hLC
  refine lv_aload_n hx hb dl_967 rfl (lv_at hl 1 rfl) ?_
  refine lawArg (j := 1) hLC hl hH ht (by decide) dl_968 dl_969 dl_970 dl_971 dl_972 ?_
  refine lawArg (j := 2) hLC hl hH ht (by decide) dl_973 dl_974 dl_975 dl_976 dl_977 ?_
  have h2 : Two (0 + 24) 112 191 [some (vR (some 0)), some (vI ((xs (t + 1).toNat).toInt)), some (vI ((xs (t + 2).toNat).toInt))] [some (vR (some 273)), some (vI ((xs (t + 1).toNat).toInt)), some (vI ((xs (t + 2).toNat).toInt)), none] M := tp_as hr
  obtain ⟨n1, r1, M1, g1, n2, r2, M2, g2, z, e1, e2, hr2⟩ := h2
  subst e1
  subst e2
  show W p l e room_1 s m #[Value.ref b] below meth c H locs SS.length (tot SS) Q (F0 m 978 ls [.int (xs (t + 2).toNat), .int (xs (t + 1).toNat), .ref (s.heap.size + 0)])
  refine lawV2 (ys := [xs (t + 1).toNat, xs (t + 2).toNat]) (idx := 127) hLC hl hH g1 (by decide) rfl (k := 3) rfl (Nat.le_of_ble_eq_true rfl) s_0 o_112 (by decide) dl_978 (by decide) (fun H1 locs1 hH1 => ?_)
  refine lv_aload_n hx hb dl_981 rfl (lv_at hl 2 rfl) ?_
  refine lawArg (j := 1) hLC hl hH1 ht (by decide) dl_982 dl_983 dl_984 dl_985 dl_986 ?_
  refine lawArg (j := 2) hLC hl hH1 ht (by decide) dl_987 dl_988 dl_989 dl_990 dl_991 ?_
  show W p l e room_1 s m #[Value.ref b] below meth c H1 locs1 SS.length (tot SS) Q (F0 m 992 ls [.int (xs (t + 2).toNat), .int (xs (t + 1).toNat), .ref (s.heap.size + 273), .int (Int32.ofInt z)])
  refine lawV2 (ys := [xs (t + 1).toNat, xs (t + 2).toNat]) (idx := 130) hLC hl hH1 g2 (by decide) rfl (k := 4) rfl (Nat.le_of_ble_eq_true rfl) s_273 o_191 (by decide) dl_992 (by show 1 + 0 ≤ 8; decide) (fun H2 locs2 hH2 => ?_)
  exact lv_icmp_eq (tgt := 1092) hx hb dl_995 (by decide) (fun _ => K M2 H2 locs2 hr2 hH2) (fun q => absurd rfl q)

theorem lk_28 (hLC : LC p s m c b L xs D cA tt) (hl : lv_has ls 4 [(0, .ref b), (1, .ref (s.heap.size + 0)), (2, .ref (s.heap.size + 273)), (3, .int (Int32.ofInt t))]) (ht : 0 ≤ t ∧ t + 6 ≤ L) (hH : LIS D cA tt s SS M H locs) (hr : Rel M) (K : ∀ M1 H1 locs1, Rel M1 → LIS D cA tt s SS M1 H1 locs1 → W p l e room_1 s m #[Value.ref b] below meth c H1 locs1 SS.length (tot SS) Q (F0 m 1092 ls [])) : W p l e room_1 s m #[Value.ref b] below meth c H locs SS.length (tot SS) Q (F0 m 1000 ls []) := by
  obtain ⟨hx, hb, hml, hown, hC, hX, hbl, hL⟩ := id hLC
  refine lv_aload_n hx hb dl_1000 rfl (lv_at hl 1 rfl) ?_
  refine lawArg (j := 1) hLC hl hH ht (by decide) dl_1001 dl_1002 dl_1003 dl_1004 dl_1005 ?_
  refine lawArg (j := 2) hLC hl hH ht (by decide) dl_1006 dl_1007 dl_1008 dl_1009 dl_1010 ?_
  have h2 : Two (0 + 24) 113 201 [some (vR (some 0)), some (vI ((xs (t + 1).toNat).toInt)), some (vI ((xs (t + 2).toNat).toInt))] [some (vR (some 273)), some (vI ((xs (t + 1).toNat).toInt)), some (vI ((xs (t + 2).toNat).toInt))] M := tp_ask hr
  obtain ⟨n1, r1, M1, g1, n2, r2, M2, g2, z, e1, e2, hr2⟩ := h2
  subst e1
  subst e2
  show W p l e room_1 s m #[Value.ref b] below meth c H locs SS.length (tot SS) Q (F0 m 1011 ls [.int (xs (t + 2).toNat), .int (xs (t + 1).toNat), .ref (s.heap.size + 0)])
  refine lawV2 (ys := [xs (t + 1).toNat, xs (t + 2).toNat]) (idx := 131) hLC hl hH g1 (by decide) rfl (k := 3) rfl (Nat.le_of_ble_eq_true rfl) s_0 o_113 (by decide) dl_1011 (by decide) (fun H1 locs1 hH1 => ?_)
  refine lv_aload_n hx hb dl_1014 rfl (lv_at hl 2 rfl) ?_
  refine lawArg (j := 1) hLC hl hH1 ht (by decide) dl_1015 dl_1016 dl_1017 dl_1018 dl_1019 ?_
  refine lawArg (j := 2) hLC hl hH1 ht (by decide) dl_1020 dl_1021 dl_1022 dl_1023 dl_1024 ?_
  show W p l e room_1 s m #[Value.ref b] below meth c H1 locs1 SS.length (tot SS) Q (F0 m 1025 ls [.int (xs (t + 2).toNat), .int (xs (t + 1).toNat), .ref (s.heap.size + 273), .int (Int32.ofInt z)])
  refine lawV2 (ys := [xs (t + 1).toNat, xs (t + 2).toNat]) (idx := 134) hLC hl hH1 g2 (by decide) rfl (k := 3) rfl (Nat.le_of_ble_eq_true rfl) s_273 o_201 (by decide) dl_1025 (by show 1 + 0 ≤ 8; decide) (fun H2 locs2 hH2 => ?_)
  exact lv_icmp_eq (tgt := 1092) hx hb dl_1028 (by decide) (fun _ => K M2 H2 locs2 hr2 hH2) (fun q => absurd rfl q)

theorem lk_29 (hLC : LC p s m c b L xs D cA tt) (hl : lv_has ls 4 [(0, .ref b), (1, .ref (s.heap.size + 0)), (2, .ref (s.heap.size + 273)), (3, .int (Int32.ofInt t))]) (ht : 0 ≤ t ∧ t + 6 ≤ L) (hH : LIS D cA tt s SS M H locs) (hr : Rel M) (K : ∀ M1 H1 locs1, Rel M1 → LIS D cA tt s SS M1 H1 locs1 → W p l e room_1 s m #[Value.ref b] below meth c H1 locs1 SS.length (tot SS) Q (F0 m 1092 ls [])) : W p l e room_1 s m #[Value.ref b] below meth c H locs SS.length (tot SS) Q (F0 m 1033 ls []) := by
  obtain ⟨hx, hb, hml, hown, hC, hX, hbl, hL⟩ := id hLC
  refine lv_aload_n hx hb dl_1033 rfl (lv_at hl 1 rfl) ?_
  refine lawArg (j := 1) hLC hl hH ht (by decide) dl_1034 dl_1035 dl_1036 dl_1037 dl_1038 ?_
  have h2 : Two (0 + 24) 114 202 [some (vR (some 0)), some (vI ((xs (t + 1).toNat).toInt))] [some (vR (some 273)), some (vI ((xs (t + 1).toNat).toInt))] M := tp_trace hr
  obtain ⟨n1, r1, M1, g1, n2, r2, M2, g2, z, e1, e2, hr2⟩ := h2
  subst e1
  subst e2
  show W p l e room_1 s m #[Value.ref b] below meth c H locs SS.length (tot SS) Q (F0 m 1039 ls [.int (xs (t + 1).toNat), .ref (s.heap.size + 0)])
  refine lawV2 (ys := [xs (t + 1).toNat]) (idx := 135) hLC hl hH g1 (by decide) rfl (k := 2) rfl (Nat.le_of_ble_eq_true rfl) s_0 o_114 (by decide) dl_1039 (by decide) (fun H1 locs1 hH1 => ?_)
  refine lv_aload_n hx hb dl_1042 rfl (lv_at hl 2 rfl) ?_
  refine lawArg (j := 1) hLC hl hH1 ht (by decide) dl_1043 dl_1044 dl_1045 dl_1046 dl_1047 ?_
  show W p l e room_1 s m #[Value.ref b] below meth c H1 locs1 SS.length (tot SS) Q (F0 m 1048 ls [.int (xs (t + 1).toNat), .ref (s.heap.size + 273), .int (Int32.ofInt z)])
  refine lawV2 (ys := [xs (t + 1).toNat]) (idx := 138) hLC hl hH1 g2 (by decide) rfl (k := 2) rfl (Nat.le_of_ble_eq_true rfl) s_273 o_202 (by decide) dl_1048 (by show 1 + 0 ≤ 8; decide) (fun H2 locs2 hH2 => ?_)
  exact lv_icmp_eq (tgt := 1092) hx hb dl_1051 (by decide) (fun _ => K M2 H2 locs2 hr2 hH2) (fun q => absurd rfl q)

theorem lk_30 (hLC : LC p s m c b L xs D cA tt) (hl : lv_has ls 4 [(0, .ref b), (1, .ref (s.heap.size + 0)), (2, .ref (s.heap.size + 273)), (3, .int (Int32.ofInt t))]) (ht : 0 ≤ t ∧ t + 6 ≤ L) (hH : LIS D cA tt s SS M H locs) (hr : Rel M) (K : ∀ M1 H1 locs1, Rel M1 → LIS D cA tt s SS M1 H1 locs1 → W p l e room_1 s m #[Value.ref b] below meth c H1 locs1 SS.length (tot SS) Q (F0 m 1092 ls [])) : W p l e room_1 s m #[Value.ref b] below meth c H locs SS.length (tot SS) Q (F0 m 1056 ls []) := by
  obtain ⟨hx, hb, hml, hown, hC, hX, hbl, hL⟩ := id hLC
  refine lv_aload_n hx hb dl_1056 rfl (lv_at hl 1 rfl) ?_
  refine lawArg (j := 1) hLC hl hH ht (by decide) dl_1057 dl_1058 dl_1059 dl_1060 dl_1061 ?_
  have h2 : Two (0 + 24) 115 204 [some (vR (some 0)), some (vI ((xs (t + 1).toNat).toInt))] [some (vR (some 273)), some (vI ((xs (t + 1).toNat).toInt))] M := tp_count hr
  obtain ⟨n1, r1, M1, g1, n2, r2, M2, g2, z, e1, e2, hr2⟩ := h2
  subst e1
  subst e2
  show W p l e room_1 s m #[Value.ref b] below meth c H locs SS.length (tot SS) Q (F0 m 1062 ls [.int (xs (t + 1).toNat), .ref (s.heap.size + 0)])
  refine lawV2 (ys := [xs (t + 1).toNat]) (idx := 139) hLC hl hH g1 (by decide) rfl (k := 2) rfl (Nat.le_of_ble_eq_true rfl) s_0 o_115 (by decide) dl_1062 (by decide) (fun H1 locs1 hH1 => ?_)
  refine lv_aload_n hx hb dl_1065 rfl (lv_at hl 2 rfl) ?_
  refine lawArg (j := 1) hLC hl hH1 ht (by decide) dl_1066 dl_1067 dl_1068 dl_1069 dl_1070 ?_
  show W p l e room_1 s m #[Value.ref b] below meth c H1 locs1 SS.length (tot SS) Q (F0 m 1071 ls [.int (xs (t + 1).toNat), .ref (s.heap.size + 273), .int (Int32.ofInt z)])
  refine lawV2 (ys := [xs (t + 1).toNat]) (idx := 142) hLC hl hH1 g2 (by decide) rfl (k := 2) rfl (Nat.le_of_ble_eq_true rfl) s_273 o_204 (by decide) dl_1071 (by show 1 + 0 ≤ 8; decide) (fun H2 locs2 hH2 => ?_)
  exact lv_icmp_eq (tgt := 1092) hx hb dl_1074 (by decide) (fun _ => K M2 H2 locs2 hr2 hH2) (fun q => absurd rfl q)

theorem lk_31 (hLC : LC p s m c b L xs D cA tt) (hl : lv_has ls 4 [(0, .ref b), (1, .ref (s.heap.size + 0)), (2, .ref (s.heap.size + 273)), (3, .int (Int32.ofInt t))]) (ht : 0 ≤ t ∧ t + 6 ≤ L) (hH : LIS D cA tt s SS M H locs) (hr : Rel M) (K : ∀ M1 H1 locs1, Rel M1 → LIS D cA tt s SS M1 H1 locs1 → W p l e room_1 s m #[Value.ref b] below meth c H1 locs1 SS.length (tot SS) Q (F0 m 1092 ls [])) : W p l e room_1 s m #[Value.ref b] below meth c H locs SS.length (tot SS) Q (F0 m 1079 ls []) := by
  obtain ⟨hx, hb, hml, hown, hC, hX, hbl, hL⟩ := id hLC
  refine lv_aload_n hx hb dl_1079 rfl (lv_at hl 1 rfl) ?_
  have h2 : Two (0 + 24) 116 205 [some (vR (some 0))] [some (vR (some 273))] M := tp_status hr
  obtain ⟨n1, r1, M1, g1, n2, r2, M2, g2, z, e1, e2, hr2⟩ := h2
  subst e1
  subst e2
  show W p l e room_1 s m #[Value.ref b] below meth c H locs SS.length (tot SS) Q (F0 m 1080 ls [.ref (s.heap.size + 0)])
  refine lawV2 (ys := []) (idx := 143) hLC hl hH g1 (by decide) rfl (k := 1) rfl (Nat.le_of_ble_eq_true rfl) s_0 o_116 (by decide) dl_1080 (by decide) (fun H1 locs1 hH1 => ?_)
  refine lv_aload_n hx hb dl_1083 rfl (lv_at hl 2 rfl) ?_
  show W p l e room_1 s m #[Value.ref b] below meth c H1 locs1 SS.length (tot SS) Q (F0 m 1084 ls [.ref (s.heap.size + 273), .int (Int32.ofInt z)])
  refine lawV2 (ys := []) (idx := 146) hLC hl hH1 g2 (by decide) rfl (k := 1) rfl (Nat.le_of_ble_eq_true rfl) s_273 o_205 (by decide) dl_1084 (by show 1 + 0 ≤ 8; decide) (fun H2 locs2 hH2 => ?_)
  exact lv_icmp_eq (tgt := 1092) hx hb dl_1087 (by decide) (fun _ => K M2 H2 locs2 hr2 hH2) (fun q => absurd rfl q)

end LK24