section LK16
variable {p : Program} {l : Launch} {e : Env} {s : State} {m : MethodId} {b L : Nat} {xs : Nat → Int32} {below : List Frame} {meth : Method} {c : Code} {H : Heap} {locs : List Loc} {Q : State → Prop}
variable {ls : Array Slot} {D : va_G} {cA : Nat → ClassId} {tt : Nat → Nat} {M : Mem} {t : Int}
theorem lk_16 (hLC : LC p s m c b L xs D cA tt) (hl : lv_has ls 4 [(0, .ref b), (1, .ref (s.heap.size + 0)), (2, .ref (s.heap.size + 273)), (3, .int (Int32.ofInt t))]) (ht : 0 ≤ t ∧ t + 6 ≤ L) (hH : LIS D cA tt s SS M H locs) (hr : Rel M) (K : ∀ M1 H1 locs1, Rel M1 → LIS D cA tt s SS M1 H1 locs1 → W p l e room_1 s m #[Value.ref b] below meth c H1 locs1 SS.length (tot SS) Q (F0 m 1092 ls [])) : W p l e room_1 s m #[Value.ref b] below meth c H locs SS.length (tot SS) Q (F0 m 644 ls []) := by
  obtain ⟨hx, hb, hml, hown, hC, hX, hbl, hL⟩ := id hLC
  refine lv_aload_n hx hb dl_644 rfl (lv_at hl 1 rfl) ?_
  have h2 : Two (0 + 24) 101 172 [some (vR (some 0))] [some (vR (some 273)), none] M := tp_lives hr
  obtain ⟨n1, r1, M1, g1, n2, r2, M2, g2, z, e1, e2, hr2⟩ := h2
  subst e1
  subst e2
  show W p l e room_1 s m #[Value.ref b] below meth c H locs SS.length (tot SS) Q (F0 m 645 ls [.ref (s.heap.size + 0)])
  refine lawV2 (ys := []) (idx := 82) hLC hl hH g1 (by decide) rfl (k := 1) rfl (Nat.le_of_ble_eq_true rfl) s_0 o_101 (by decide) dl_645 (by decide) (fun H1 locs1 hH1 => ?_)
  refine lv_aload_n hx hb dl_648 rfl (lv_at hl 2 rfl) ?_
  show W p l e room_1 s m #[Value.ref b] below meth c H1 locs1 SS.length (tot SS) Q (F0 m 649 ls [.ref (s.heap.size + 273), .int (Int32.ofInt z)])
  refine lawV2 (ys := []) (idx := 85) hLC hl hH1 g2 (by decide) rfl (k := 2) rfl (Nat.le_of_ble_eq_true rfl) s_273 o_172 (by decide) dl_649 (by show 1 + 0 ≤ 8; decide) (fun H2 locs2 hH2 => ?_)
  exact lv_icmp_eq (tgt := 1092) hx hb dl_652 (by decide) (fun _ => K M2 H2 locs2 hr2 hH2) (fun q => absurd rfl q)

theorem lk_17 (hLC : LC p s m c b L xs D cA tt) (hl : lv_has ls 4 [(0, .ref b), (1, .ref (s.heap.size + 0)), (2, .ref (s.heap.size + 273)), (3, .int (Int32.ofInt t))]) (ht : 0 ≤ t ∧ t + 6 ≤ L) (hH : LIS D cA tt s SS M H locs) (hr : Rel M) (K : ∀ M1 H1 locs1, Rel M1 → LIS D cA tt s SS M1 H1 locs1 → W p l e room_1 s m #[Value.ref b] below meth c H1 locs1 SS.length (tot SS) Q (F0 m 1092 ls [])) : W p l e room_1 s m #[Value.ref b] below meth c H locs SS.length (tot SS) Q (F0 m 657 ls []) := by
  obtain ⟨hx, hb, hml, hown, hC, hX, hbl, hL⟩ := id hLC
  refine lv_aload_n hx hb dl_657 rfl (lv_at hl 1 rfl) ?_
  refine lawArg (j := 1) hLC hl hH ht (by decide) dl_658 dl_659 dl_660 dl_661 dl_662 ?_
  refine lawArg (j := 2) hLC hl hH ht (by decide) dl_663 dl_664 dl_665 dl_666 dl_667 ?_
  have h2 : Two (0 + 24) 102 173 [some (vR (some 0)), some (vI ((xs (t + 1).toNat).toInt)), some (vI ((xs (t + 2).toNat).toInt)), none] [some (vR (some 273)), some (vI ((xs (t + 1).toNat).toInt)), some (vI ((xs (t + 2).toNat).toInt)), none, none, none, none, none] M := tp_words hr
  obtain ⟨n1, r1, M1, g1, n2, r2, M2, g2, z, e1, e2, hr2⟩ := h2
  subst e1
  subst e2
  show W p l e room_1 s m #[Value.ref b] below meth c H locs SS.length (tot SS) Q (F0 m 668 ls [.int (xs (t + 2).toNat), .int (xs (t + 1).toNat), .ref (s.heap.size + 0)])
  refine lawV2 (ys := [xs (t + 1).toNat, xs (t + 2).toNat]) (idx := 86) hLC hl hH g1 (by decide) rfl (k := 4) rfl (Nat.le_of_ble_eq_true rfl) s_0 o_102 (by decide) dl_668 (by decide) (fun H1 locs1 hH1 => ?_)
  refine lv_aload_n hx hb dl_671 rfl (lv_at hl 2 rfl) ?_
  refine lawArg (j := 1) hLC hl hH1 ht (by decide) dl_672 dl_673 dl_674 dl_675 dl_676 ?_
  refine lawArg (j := 2) hLC hl hH1 ht (by decide) dl_677 dl_678 dl_679 dl_680 dl_681 ?_
  show W p l e room_1 s m #[Value.ref b] below meth c H1 locs1 SS.length (tot SS) Q (F0 m 682 ls [.int (xs (t + 2).toNat), .int (xs (t + 1).toNat), .ref (s.heap.size + 273), .int (Int32.ofInt z)])
  refine lawV2 (ys := [xs (t + 1).toNat, xs (t + 2).toNat]) (idx := 89) hLC hl hH1 g2 (by decide) rfl (k := 8) rfl (Nat.le_of_ble_eq_true rfl) s_273 o_173 (by decide) dl_682 (by show 1 + 0 ≤ 8; decide) (fun H2 locs2 hH2 => ?_)
  exact lv_icmp_eq (tgt := 1092) hx hb dl_685 (by decide) (fun _ => K M2 H2 locs2 hr2 hH2) (fun q => absurd rfl q)

theorem lk_18 (hLC : LC p s m c b L xs D cA tt) (hl : lv_has ls 4 [(0, .ref b), (1, .ref (s.heap.size + 0)), (2, .ref (s.heap.size + 273)), (3, .int (Int32.ofInt t))]) (ht : 0 ≤ t ∧ t + 6 ≤ L) (hH : LIS D cA tt s SS M H locs) (hr : Rel M) (K : ∀ M1 H1 locs1, Rel M1 → LIS D cA tt s SS M1 H1 locs1 → W p l e room_1 s m #[Value.ref b] below meth c H1 locs1 SS.length (tot SS) Q (F0 m 1092 ls [])) : W p l e room_1 s m #[Value.ref b] below meth c H locs SS.length (tot SS) Q (F0 m 690 ls []) := by
  obtain ⟨hx, hb, hml, hown, hC, hX, hbl, hL⟩ := id hLC
  refine lv_aload_n hx hb dl_690 rfl (lv_at hl 1 rfl) ?_
  refine lawArg (j := 1) hLC hl hH ht (by decide) dl_691 dl_692 dl_693 dl_694 dl_695 ?_
  refine lawArg (j := 2) hLC hl hH ht (by decide) dl_696 dl_697 dl_698 dl_699 dl_700 ?_
  have h2 : Two (0 + 24) 103 174 [some (vR (some 0)), some (vI ((xs (t + 1).toNat).toInt)), some (vI ((xs (t + 2).toNat).toInt))] [some (vR (some 273)), some (vI ((xs (t + 1).toNat).toInt)), some (vI ((xs (t + 2).toNat).toInt)), none, none, none] M := tp_served hr
  obtain ⟨n1, r1, M1, g1, n2, r2, M2, g2, z, e1, e2, hr2⟩ := h2
  subst e1
  subst e2
  show W p l e room_1 s m #[Value.ref b] below meth c H locs SS.length (tot SS) Q (F0 m 701 ls [.int (xs (t + 2).toNat), .int (xs (t + 1).toNat), .ref (s.heap.size + 0)])
  refine lawV2 (ys := [xs (t + 1).toNat, xs (t + 2).toNat]) (idx := 90) hLC hl hH g1 (by decide) rfl (k := 3) rfl (Nat.le_of_ble_eq_true rfl) s_0 o_103 (by decide) dl_701 (by decide) (fun H1 locs1 hH1 => ?_)
  refine lv_aload_n hx hb dl_704 rfl (lv_at hl 2 rfl) ?_
  refine lawArg (j := 1) hLC hl hH1 ht (by decide) dl_705 dl_706 dl_707 dl_708 dl_709 ?_
  refine lawArg (j := 2) hLC hl hH1 ht (by decide) dl_710 dl_711 dl_712 dl_713 dl_714 ?_
  show W p l e room_1 s m #[Value.ref b] below meth c H1 locs1 SS.length (tot SS) Q (F0 m 715 ls [.int (xs (t + 2).toNat), .int (xs (t + 1).toNat), .ref (s.heap.size + 273), .int (Int32.ofInt z)])
  refine lawV2 (ys := [xs (t + 1).toNat, xs (t + 2).toNat]) (idx := 93) hLC hl hH1 g2 (by decide) rfl (k := 6) rfl (Nat.le_of_ble_eq_true rfl) s_273 o_174 (by decide) dl_715 (by show 1 + 0 ≤ 8; decide) (fun H2 locs2 hH2 => ?_)
  exact lv_icmp_eq (tgt := 1092) hx hb dl_718 (by decide) (fun _ => K M2 H2 locs2 hr2 hH2) (fun q => absurd rfl q)

theorem lk_19 (hLC : LC p s m c b L xs D cA tt) (hl : lv_has ls 4 [(0, .ref b), (1, .ref (s.heap.size + 0)), (2, .ref (s.heap.size + 273)), (3, .int (Int32.ofInt t))]) (ht : 0 ≤ t ∧ t + 6 ≤ L) (hH : LIS D cA tt s SS M H locs) (hr : Rel M) (K : ∀ M1 H1 locs1, Rel M1 → LIS D cA tt s SS M1 H1 locs1 → W p l e room_1 s m #[Value.ref b] below meth c H1 locs1 SS.length (tot SS) Q (F0 m 1092 ls [])) : W p l e room_1 s m #[Value.ref b] below meth c H locs SS.length (tot SS) Q (F0 m 723 ls []) := by
  obtain ⟨hx, hb, hml, hown, hC, hX, hbl, hL⟩ := id hLC
  refine lv_aload_n hx hb dl_723 rfl (lv_at hl 1 rfl) ?_
  refine lawArg (j := 1) hLC hl hH ht (by decide) dl_724 dl_725 dl_726 dl_727 dl_728 ?_
  have h2 : Two (0 + 24) 104 176 [some (vR (some 0)), some (vI ((xs (t + 1).toNat).toInt))] [some (vR (some 273)), some (vI ((xs (t + 1).toNat).toInt)), none, none] M := tp_spread hr
  obtain ⟨n1, r1, M1, g1, n2, r2, M2, g2, z, e1, e2, hr2⟩ := h2
  subst e1
  subst e2
  show W p l e room_1 s m #[Value.ref b] below meth c H locs SS.length (tot SS) Q (F0 m 729 ls [.int (xs (t + 1).toNat), .ref (s.heap.size + 0)])
  refine lawV2 (ys := [xs (t + 1).toNat]) (idx := 94) hLC hl hH g1 (by decide) rfl (k := 2) rfl (Nat.le_of_ble_eq_true rfl) s_0 o_104 (by decide) dl_729 (by decide) (fun H1 locs1 hH1 => ?_)
  refine lv_aload_n hx hb dl_732 rfl (lv_at hl 2 rfl) ?_
  refine lawArg (j := 1) hLC hl hH1 ht (by decide) dl_733 dl_734 dl_735 dl_736 dl_737 ?_
  show W p l e room_1 s m #[Value.ref b] below meth c H1 locs1 SS.length (tot SS) Q (F0 m 738 ls [.int (xs (t + 1).toNat), .ref (s.heap.size + 273), .int (Int32.ofInt z)])
  refine lawV2 (ys := [xs (t + 1).toNat]) (idx := 97) hLC hl hH1 g2 (by decide) rfl (k := 4) rfl (Nat.le_of_ble_eq_true rfl) s_273 o_176 (by decide) dl_738 (by show 1 + 0 ≤ 8; decide) (fun H2 locs2 hH2 => ?_)
  exact lv_icmp_eq (tgt := 1092) hx hb dl_741 (by decide) (fun _ => K M2 H2 locs2 hr2 hH2) (fun q => absurd rfl q)

theorem lk_20 (hLC : LC p s m c b L xs D cA tt) (hl : lv_has ls 4 [(0, .ref b), (1, .ref (s.heap.size + 0)), (2, .ref (s.heap.size + 273)), (3, .int (Int32.ofInt t))]) (ht : 0 ≤ t ∧ t + 6 ≤ L) (hH : LIS D cA tt s SS M H locs) (hr : Rel M) (K : ∀ M1 H1 locs1, Rel M1 → LIS D cA tt s SS M1 H1 locs1 → W p l e room_1 s m #[Value.ref b] below meth c H1 locs1 SS.length (tot SS) Q (F0 m 1092 ls [])) : W p l e room_1 s m #[Value.ref b] below meth c H locs SS.length (tot SS) Q (F0 m 746 ls []) := by
  obtain ⟨hx, hb, hml, hown, hC, hX, hbl, hL⟩ := id hLC
  refine lv_aload_n hx hb dl_746 rfl (lv_at hl 1 rfl) ?_
  refine lawArg (j := 1) hLC hl hH ht (by decide) dl_747 dl_748 dl_749 dl_750 dl_751 ?_
  have h2 : Two (0 + 24) 105 179 [some (vR (some 0)), some (vI ((xs (t + 1).toNat).toInt))] [some (vR (some 273)), some (vI ((xs (t + 1).toNat).toInt)), none, none] M := tp_elbows hr
  obtain ⟨n1, r1, M1, g1, n2, r2, M2, g2, z, e1, e2, hr2⟩ := h2
  subst e1
  subst e2
  show W p l e room_1 s m #[Value.ref b] below meth c H locs SS.length (tot SS) Q (F0 m 752 ls [.int (xs (t + 1).toNat), .ref (s.heap.size + 0)])
  refine lawV2 (ys := [xs (t + 1).toNat]) (idx := 98) hLC hl hH g1 (by decide) rfl (k := 2) rfl (Nat.le_of_ble_eq_true rfl) s_0 o_105 (by decide) dl_752 (by decide) (fun H1 locs1 hH1 => ?_)
  refine lv_aload_n hx hb dl_755 rfl (lv_at hl 2 rfl) ?_
  refine lawArg (j := 1) hLC hl hH1 ht (by decide) dl_756 dl_757 dl_758 dl_759 dl_760 ?_
  show W p l e room_1 s m #[Value.ref b] below meth c H1 locs1 SS.length (tot SS) Q (F0 m 761 ls [.int (xs (t + 1).toNat), .ref (s.heap.size + 273), .int (Int32.ofInt z)])
  refine lawV2 (ys := [xs (t + 1).toNat]) (idx := 101) hLC hl hH1 g2 (by decide) rfl (k := 4) rfl (Nat.le_of_ble_eq_true rfl) s_273 o_179 (by decide) dl_761 (by show 1 + 0 ≤ 8; decide) (fun H2 locs2 hH2 => ?_)
  exact lv_icmp_eq (tgt := 1092) hx hb dl_764 (by decide) (fun _ => K M2 H2 locs2 hr2 hH2) (fun q => absurd rfl q)

theorem lk_21 (hLC : LC p s m c b L xs D cA tt) (hl : lv_has ls 4 [(0, .ref b), (1, .ref (s.heap.size + 0)), (2, .ref (s.heap.size + 273)), (3, .int (Int32.ofInt t))]) (ht : 0 ≤ t ∧ t + 6 ≤ L) (hH : LIS D cA tt s SS M H locs) (hr : Rel M) (K : ∀ M1 H1 locs1, Rel M1 → LIS D cA tt s SS M1 H1 locs1 → W p l e room_1 s m #[Value.ref b] below meth c H1 locs1 SS.length (tot SS) Q (F0 m 1092 ls [])) : W p l e room_1 s m #[Value.ref b] below meth c H locs SS.length (tot SS) Q (F0 m 769 ls []) := by
  obtain ⟨hx, hb, hml, hown, hC, hX, hbl, hL⟩ := id hLC
  refine lv_aload_n hx hb dl_769 rfl (lv_at hl 1 rfl) ?_
  refine lawArg (j := 1) hLC hl hH ht (by decide) dl_770 dl_771 dl_772 dl_773 dl_774 ?_
  refine lawArg (j := 2) hLC hl hH ht (by decide) dl_775 dl_776 dl_777 dl_778 dl_779 ?_
  refine lawArg (j := 3) hLC hl hH ht (by decide) dl_780 dl_781 dl_782 dl_783 dl_784 ?_
  refine lawArg (j := 4) hLC hl hH ht (by decide) dl_785 dl_786 dl_787 dl_788 dl_789 ?_
  have h2 : Two (0 + 24) 106 183 [some (vR (some 0)), some (vI ((xs (t + 1).toNat).toInt)), some (vI ((xs (t + 2).toNat).toInt)), some (vI ((xs (t + 3).toNat).toInt)), some (vI ((xs (t + 4).toNat).toInt))] [some (vR (some 273)), some (vI ((xs (t + 1).toNat).toInt)), some (vI ((xs (t + 2).toNat).toInt)), some (vI ((xs (t + 3).toNat).toInt)), some (vI ((xs (t + 4).toNat).toInt)), none, none, none, none, none] M := tp_grows hr
  obtain ⟨n1, r1, M1, g1, n2, r2, M2, g2, z, e1, e2, hr2⟩ := h2
  subst e1
  subst e2
  show W p l e room_1 s m #[Value.ref b] below meth c H locs SS.length (tot SS) Q (F0 m 790 ls [.int (xs (t + 4).toNat), .int (xs (t + 3).toNat), .int (xs (t + 2).toNat), .int (xs (t + 1).toNat), .ref (s.heap.size + 0)])
  refine lawV2 (ys := [xs (t + 1).toNat, xs (t + 2).toNat, xs (t + 3).toNat, xs (t + 4).toNat]) (idx := 102) hLC hl hH g1 (by decide) rfl (k := 5) rfl (Nat.le_of_ble_eq_true rfl) s_0 o_106 (by decide) dl_790 (by decide) (fun H1 locs1 hH1 => ?_)
  refine lv_aload_n hx hb dl_793 rfl (lv_at hl 2 rfl) ?_
  refine lawArg (j := 1) hLC hl hH1 ht (by decide) dl_794 dl_795 dl_796 dl_797 dl_798 ?_
  refine lawArg (j := 2) hLC hl hH1 ht (by decide) dl_799 dl_800 dl_801 dl_802 dl_803 ?_
  refine lawArg (j := 3) hLC hl hH1 ht (by decide) dl_804 dl_805 dl_806 dl_807 dl_808 ?_
  refine lawArg (j := 4) hLC hl hH1 ht (by decide) dl_809 dl_810 dl_811 dl_812 dl_813 ?_
  show W p l e room_1 s m #[Value.ref b] below meth c H1 locs1 SS.length (tot SS) Q (F0 m 814 ls [.int (xs (t + 4).toNat), .int (xs (t + 3).toNat), .int (xs (t + 2).toNat), .int (xs (t + 1).toNat), .ref (s.heap.size + 273), .int (Int32.ofInt z)])
  refine lawV2 (ys := [xs (t + 1).toNat, xs (t + 2).toNat, xs (t + 3).toNat, xs (t + 4).toNat]) (idx := 106) hLC hl hH1 g2 (by decide) rfl (k := 10) rfl (Nat.le_of_ble_eq_true rfl) s_273 o_183 (by decide) dl_814 (by show 1 + 0 ≤ 8; decide) (fun H2 locs2 hH2 => ?_)
  exact lv_icmp_eq (tgt := 1092) hx hb dl_817 (by decide) (fun _ => K M2 H2 locs2 hr2 hH2) (fun q => absurd rfl q)

theorem lk_22 (hLC : LC p s m c b L xs D cA tt) (hl : lv_has ls 4 [(0, .ref b), (1, .ref (s.heap.size + 0)), (2, .ref (s.heap.size + 273)), (3, .int (Int32.ofInt t))]) (ht : 0 ≤ t ∧ t + 6 ≤ L) (hH : LIS D cA tt s SS M H locs) (hr : Rel M) (K : ∀ M1 H1 locs1, Rel M1 → LIS D cA tt s SS M1 H1 locs1 → W p l e room_1 s m #[Value.ref b] below meth c H1 locs1 SS.length (tot SS) Q (F0 m 1092 ls [])) : W p l e room_1 s m #[Value.ref b] below meth c H locs SS.length (tot SS) Q (F0 m 822 ls []) := by
  obtain ⟨hx, hb, hml, hown, hC, hX, hbl, hL⟩ := id hLC
  refine lv_aload_n hx hb dl_822 rfl (lv_at hl 1 rfl) ?_
  refine lawArg (j := 1) hLC hl hH ht (by decide) dl_823 dl_824 dl_825 dl_826 dl_827 ?_
  refine lawArg (j := 2) hLC hl hH ht (by decide) dl_828 dl_829 dl_830 dl_831 dl_832 ?_
  have h2 : Two (0 + 24) 107 184 [some (vR (some 0)), some (vI ((xs (t + 1).toNat).toInt)), some (vI ((xs (t + 2).toNat).toInt))] [some (vR (some 273)), some (vI ((xs (t + 1).toNat).toInt)), some (vI ((xs (t + 2).toNat).toInt)), none, none, none, none, none] M := tp_opens hr
  obtain ⟨n1, r1, M1, g1, n2, r2, M2, g2, z, e1, e2, hr2⟩ := h2
  subst e1
  subst e2
  show W p l e room_1 s m #[Value.ref b] below meth c H locs SS.length (tot SS) Q (F0 m 833 ls [.int (xs (t + 2).toNat), .int (xs (t + 1).toNat), .ref (s.heap.size + 0)])
  refine lawV2 (ys := [xs (t + 1).toNat, xs (t + 2).toNat]) (idx := 107) hLC hl hH g1 (by decide) rfl (k := 3) rfl (Nat.le_of_ble_eq_true rfl) s_0 o_107 (by decide) dl_833 (by decide) (fun H1 locs1 hH1 => ?_)
  refine lv_aload_n hx hb dl_836 rfl (lv_at hl 2 rfl) ?_
  refine lawArg (j := 1) hLC hl hH1 ht (by decide) dl_837 dl_838 dl_839 dl_840 dl_841 ?_
  refine lawArg (j := 2) hLC hl hH1 ht (by decide) dl_842 dl_843 dl_844 dl_845 dl_846 ?_
  show W p l e room_1 s m #[Value.ref b] below meth c H1 locs1 SS.length (tot SS) Q (F0 m 847 ls [.int (xs (t + 2).toNat), .int (xs (t + 1).toNat), .ref (s.heap.size + 273), .int (Int32.ofInt z)])
  refine lawV2 (ys := [xs (t + 1).toNat, xs (t + 2).toNat]) (idx := 110) hLC hl hH1 g2 (by decide) rfl (k := 8) rfl (Nat.le_of_ble_eq_true rfl) s_273 o_184 (by decide) dl_847 (by show 1 + 0 ≤ 8; decide) (fun H2 locs2 hH2 => ?_)
  exact lv_icmp_eq (tgt := 1092) hx hb dl_850 (by decide) (fun _ => K M2 H2 locs2 hr2 hH2) (fun q => absurd rfl q)

theorem lk_23 (hLC : LC p s m c b L xs D cA tt) (hl : lv_has ls 4 [(0, .ref b), (1, .ref (s.heap.size + 0)), (2, .ref (s.heap.size + 273)), (3, .int (Int32.ofInt t))]) (ht : 0 ≤ t ∧ t + 6 ≤ L) (hH : LIS D cA tt s SS M H locs) (hr : Rel M) (K : ∀ M1 H1 locs1, Rel M1 → LIS D cA tt s SS M1 H1 locs1 → W p l e room_1 s m #[Value.ref b] below meth c H1 locs1 SS.length (tot SS) Q (F0 m 1092 ls [])) : W p l e room_1 s m #[Value.ref b] below meth c H locs SS.length (tot SS) Q (F0 m 855 ls []) := by
  obtain ⟨hx, hb, hml, hown, hC, hX, hbl, hL⟩ := id hLC
  refine lv_aload_n hx hb dl_855 rfl (lv_at hl 1 rfl) ?_
  refine lawArg (j := 1) hLC hl hH ht (by decide) dl_856 dl_857 dl_858 dl_859 dl_860 ?_
  refine lawArg (j := 2) hLC hl hH ht (by decide) dl_861 dl_862 dl_863 dl_864 dl_865 ?_
  refine lawArg (j := 3) hLC hl hH ht (by decide) dl_866 dl_867 dl_868 dl_869 dl_870 ?_
  have h2 : Two (0 + 24) 108 186 [some (vR (some 0)), some (vI ((xs (t + 1).toNat).toInt)), some (vI ((xs (t + 2).toNat).toInt)), some (vI ((xs (t + 3).toNat).toInt)), none, none] [some (vR (some 273)), some (vI ((xs (t + 1).toNat).toInt)), some (vI ((xs (t + 2).toNat).toInt)), some (vI ((xs (t + 3).toNat).toInt)), none, none, none] M := tp_seen hr (inR_toInt _)
  obtain ⟨n1, r1, M1, g1, n2, r2, M2, g2, z, e1, e2, hr2⟩ := h2
  subst e1
  subst e2
  show W p l e room_1 s m #[Value.ref b] below meth c H locs SS.length (tot SS) Q (F0 m 871 ls [.int (xs (t + 3).toNat), .int (xs (t + 2).toNat), .int (xs (t + 1).toNat), .ref (s.heap.size + 0)])
  refine lawV2 (ys := [xs (t + 1).toNat, xs (t + 2).toNat, xs (t + 3).toNat]) (idx := 111) hLC hl hH g1 (by decide) rfl (k := 6) rfl (Nat.le_of_ble_eq_true rfl) s_0 o_108 (by decide) dl_871 (by decide) (fun H1 locs1 hH1 => ?_)
  refine lv_aload_n hx hb dl_874 rfl (lv_at hl 2 rfl) ?_
  refine lawArg (j := 1) hLC hl hH1 ht (by decide) dl_875 dl_876 dl_877 dl_878 dl_879 ?_
  refine lawArg (j := 2) hLC hl hH1 ht (by decide) dl_880 dl_881 dl_882 dl_883 dl_884 ?_
  refine lawArg (j := 3) hLC hl hH1 ht (by decide) dl_885 dl_886 dl_887 dl_888 dl_889 ?_
  show W p l e room_1 s m #[Value.ref b] below meth c H1 locs1 SS.length (tot SS) Q (F0 m 890 ls [.int (xs (t + 3).toNat), .int (xs (t + 2).toNat), .int (xs (t + 1).toNat), .ref (s.heap.size + 273), .int (Int32.ofInt z)])
  refine lawV2 (ys := [xs (t + 1).toNat, xs (t + 2).toNat, xs (t + 3).toNat]) (idx := 114) hLC hl hH1 g2 (by decide) rfl (k := 7) rfl (Nat.le_of_ble_eq_true rfl) s_273 o_186 (by decide) dl_890 (by show 1 + 0 ≤ 8; decide) (fun H2 locs2 hH2 => ?_)
  exact lv_icmp_eq (tgt := 1092) hx hb dl_893 (by decide) (fun _ => K M2 H2 locs2 hr2 hH2) (fun q => absurd rfl q)

end LK16