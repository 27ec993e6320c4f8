theorem RepC.fr {M M' : Mem} {a : Nat} {K : Kt} {m : Int} {T : Tt} (h : RepC M a K m T) (he : ∀ (b : Nat) (j : Int), a ≤ b → b ≤ a + 5 → M' b j = M b j) : RepC M' a K m T := by
  obtain ⟨r6, r7, r8, r9, r10, rq, rp⟩ := id h
  refine ⟨by rw [he _ _ (by omega) (by omega)]; exact r6, by rw [he _ _ (by omega) (by omega)]; exact r7, by rw [he _ _ (by omega) (by omega)]; exact r8, by rw [he _ _ (by omega) (by omega)]; exact r9, by rw [he _ _ (by omega) (by omega)]; exact r10, fun i p hi => by rw [he _ _ (by omega) (by omega)]; exact rq i p hi, fun p hp => ?_⟩
  rw [he _ _ (by omega) (by omega), he _ _ (by omega) (by omega), he _ _ (by omega) (by omega), he _ _ (by omega) (by omega)]
  exact rp p hp
theorem RepK.fr {M M' : Mem} {t : Nat} {K : Kt} {m : Int} (h : RepK M t K m) (he : ∀ (b : Nat) (j : Int), t ≤ b → b ≤ t + 4 → M' b j = M b j) : RepK M' t K m := by
  refine ⟨by rw [he _ _ (by omega) (by omega)]; exact h.1, by rw [he _ _ (by omega) (by omega)]; exact h.2.1, fun p hp => ?_⟩
  rw [he _ _ (by omega) (by omega), he _ _ (by omega) (by omega), he _ _ (by omega) (by omega)]
  exact h.2.2 p hp

theorem tw_25 : Tw 25 20 16 := ⟨s_25, s_26, s_27, s_28, s_29, s_30⟩
theorem tw_179 : Tw 179 20 28 := ⟨s_179, s_180, s_181, s_182, s_183, s_184⟩
theorem tw_185 : Tw 185 20 16 := ⟨s_185, s_186, s_187, s_188, s_189, s_190⟩
theorem tw_256 : Tw 256 251 16 := ⟨s_256, s_257, s_258, s_259, s_260, s_261⟩
theorem tw_267 : Tw 267 262 16 := ⟨s_267, s_268, s_269, s_270, s_271, s_272⟩
theorem tw_rg : ∀ i : Nat, i < 24 → Tw (33 + 6 * i) 20 16 := by
  intro i h
  rcases (show i = 0 ∨ i = 1 ∨ i = 2 ∨ i = 3 ∨ i = 4 ∨ i = 5 ∨ i = 6 ∨ i = 7 ∨ i = 8 ∨ i = 9 ∨ i = 10 ∨ i = 11 ∨ i = 12 ∨ i = 13 ∨ i = 14 ∨ i = 15 ∨ i = 16 ∨ i = 17 ∨ i = 18 ∨ i = 19 ∨ i = 20 ∨ i = 21 ∨ i = 22 ∨ i = 23 by omega) with rfl | rfl | rfl | rfl | rfl | rfl | rfl | rfl | rfl | rfl | rfl | rfl | rfl | rfl | rfl | rfl | rfl | rfl | rfl | rfl | rfl | rfl | rfl | rfl
  · exact ⟨s_33, s_34, s_35, s_36, s_37, s_38⟩
  · exact ⟨s_39, s_40, s_41, s_42, s_43, s_44⟩
  · exact ⟨s_45, s_46, s_47, s_48, s_49, s_50⟩
  · exact ⟨s_51, s_52, s_53, s_54, s_55, s_56⟩
  · exact ⟨s_57, s_58, s_59, s_60, s_61, s_62⟩
  · exact ⟨s_63, s_64, s_65, s_66, s_67, s_68⟩
  · exact ⟨s_69, s_70, s_71, s_72, s_73, s_74⟩
  · exact ⟨s_75, s_76, s_77, s_78, s_79, s_80⟩
  · exact ⟨s_81, s_82, s_83, s_84, s_85, s_86⟩
  · exact ⟨s_87, s_88, s_89, s_90, s_91, s_92⟩
  · exact ⟨s_93, s_94, s_95, s_96, s_97, s_98⟩
  · exact ⟨s_99, s_100, s_101, s_102, s_103, s_104⟩
  · exact ⟨s_105, s_106, s_107, s_108, s_109, s_110⟩
  · exact ⟨s_111, s_112, s_113, s_114, s_115, s_116⟩
  · exact ⟨s_117, s_118, s_119, s_120, s_121, s_122⟩
  · exact ⟨s_123, s_124, s_125, s_126, s_127, s_128⟩
  · exact ⟨s_129, s_130, s_131, s_132, s_133, s_134⟩
  · exact ⟨s_135, s_136, s_137, s_138, s_139, s_140⟩
  · exact ⟨s_141, s_142, s_143, s_144, s_145, s_146⟩
  · exact ⟨s_147, s_148, s_149, s_150, s_151, s_152⟩
  · exact ⟨s_153, s_154, s_155, s_156, s_157, s_158⟩
  · exact ⟨s_159, s_160, s_161, s_162, s_163, s_164⟩
  · exact ⟨s_165, s_166, s_167, s_168, s_169, s_170⟩
  · exact ⟨s_171, s_172, s_173, s_174, s_175, s_176⟩
theorem tw_rg_rf : ∀ i : Nat, i < 24 → ([some 33, some 39, some 45, some 51, some 57, some 63, some 69, some 75, some 81, some 87, some 93, some 99, some 105, some 111, some 117, some 123, some 129, some 135, some 141, some 147, some 153, some 159, some 165, some 171] : List (Option Nat)).getD i none = some (33 + 6 * i) := by decide
theorem tw_pa : ∀ i : Nat, i < 9 → Tw (192 + 6 * i) 20 16 := by
  intro i h
  rcases (show i = 0 ∨ i = 1 ∨ i = 2 ∨ i = 3 ∨ i = 4 ∨ i = 5 ∨ i = 6 ∨ i = 7 ∨ i = 8 by omega) with rfl | rfl | rfl | rfl | rfl | rfl | rfl | rfl | rfl
  · exact ⟨s_192, s_193, s_194, s_195, s_196, s_197⟩
  · exact ⟨s_198, s_199, s_200, s_201, s_202, s_203⟩
  · exact ⟨s_204, s_205, s_206, s_207, s_208, s_209⟩
  · exact ⟨s_210, s_211, s_212, s_213, s_214, s_215⟩
  · exact ⟨s_216, s_217, s_218, s_219, s_220, s_221⟩
  · exact ⟨s_222, s_223, s_224, s_225, s_226, s_227⟩
  · exact ⟨s_228, s_229, s_230, s_231, s_232, s_233⟩
  · exact ⟨s_234, s_235, s_236, s_237, s_238, s_239⟩
  · exact ⟨s_240, s_241, s_242, s_243, s_244, s_245⟩
theorem tw_pa_rf : ∀ i : Nat, i < 9 → ([some 192, some 198, some 204, some 210, some 216, some 222, some 228, some 234, some 240] : List (Option Nat)).getD i none = some (192 + 6 * i) := by decide
/-- the ring of acts: the latest first -/
def ActsC (M : Mem) (K : Kt) (L : List Tt) : Prop := 0 ≤ M 31 1 ∧ M 31 1 < 24 ∧ M 31 2 = L.length ∧ L.length ≤ 24 ∧ ∀ (i : Nat) (U : Tt), L[i]? = some U → RepC M (33 + 6 * (((M 31 1).toNat + 23 - i) % 24)) K 0 U
def keepL (L : List Tt) (T : Tt) : List Tt := (T :: L).take 24
def OutA (M M' : Mem) : Prop := ∀ (b : Nat) (j : Int), ¬ (31 ≤ b ∧ b ≤ 176) → M' b j = M b j
theorem ActsC.fr {M M' : Mem} {K : Kt} {L : List Tt} (h : ActsC M K L) (he : ∀ (b : Nat) (j : Int), 31 ≤ b → b ≤ 176 → M' b j = M b j) : ActsC M' K L := by
  obtain ⟨h1, h2, h3, h4, h5⟩ := h
  have e1 : M' 31 1 = M 31 1 := he _ _ (by omega) (by omega)
  have e2 : M' 31 2 = M 31 2 := he _ _ (by omega) (by omega)
  refine ⟨by omega, by omega, by omega, h4, fun i U hi => ?_⟩
  rw [e1]
  exact (h5 i U hi).fr (fun b j hb hb2 => he b j (by omega) (by omega))

/-- ElbowQueue$Acts.kept -/
theorem c_1 {d : Nat} {M : Mem} {Q : Option Vv → Mem → Prop}   (k : Q (some (vI (M 31 2))) M) : Ok d 1 0 [some (vR (some 31))] [] M Q := by
  refine k_aload_n i_1_0 rfl ?_
  refine k_getI (kz := 2) i_1_1 o_1 rfl (by decide) (s_31) rfl ?_
  refine k_iret i_1_4 rfl ?_
  exact k

/-- ElbowQueue$Acts.forget -/
theorem c_2 {d : Nat} {M : Mem} {Q : Option Vv → Mem → Prop}   (k : Q none (mu M 31 2 0)) : Ok d 2 0 [some (vR (some 31))] [] M Q := by
  refine k_aload_n i_2_0 rfl ?_
  refine k_iconst i_2_1 (by decide) ?_
  refine k_putI (kz := 2) i_2_2 o_2 rfl (by decide) (s_31) rfl ?_
  refine k_vret i_2_5 rfl ?_
  exact k

/-- ElbowQueue$Acts.keep -/
theorem c_3 {d : Nat} {M : Mem} {Q : Option Vv → Mem → Prop} {K : Kt} {T : Tt} {L : List Tt} (hKo : KOk K 0) (hR : RepC M 25 K 0 T) (hl : ((tQ T).length : Int) ≤ 16) (hA : ActsC M K L) (kk : ∀ M', ActsC M' K (keepL L T) → OutA M M' → Q none M') : Ok (d + 1) 3 0 [some (vR (some 31)), some (vR (some 25))] [] M Q := by
  obtain ⟨a1, a2, a3, a4, a5⟩ := id hA
  have htw := tw_rg (M 31 1).toNat (by omega)
  refine k_aload_n i_3_0 rfl ?_
  refine k_getR (r := 32) i_3_1 o_3 rfl (by decide) (s_31) rfl ?_
  refine k_aload_n i_3_4 rfl ?_
  refine k_getI (kz := 1) i_3_5 o_3 rfl (by decide) (s_31) rfl ?_
  refine k_aald (r := (33 + 6 * (M 31 1).toNat)) i_3_8 (s_32) (by decide) (by omega) (tw_rg_rf _ (by omega)) ?_
  refine k_aload_n i_3_9 rfl ?_
  refine k_invV (n := 1) (o' := 6) (av := [vR (some ((33 + 6 * (M 31 1).toNat))), vR (some 25)]) (rest := []) (el := [some (vR (some ((33 + 6 * (M 31 1).toNat)))), some (vR (some 25)), none]) i_3_10 o_3 rfl v_62 rfl (htw.1) rfl rfl rfl rfl rfl ?_
  refine c_62 htw tw_25 (Or.inl ⟨rfl, rfl⟩) (by omega) hKo hR hl (fun M1 hR1 ho1 => ?_)
  show Ok _ 3 13 [some (vR (some 31)), some (vR (some 25))] [] (M1) _
  have e1 : M1 31 1 = M 31 1 := ho1 _ _ (by omega)
  have e2 : M1 31 2 = M 31 2 := ho1 _ _ (by omega)
  have fin : ∀ (x y : Int), x = (if M 31 1 + 1 < 24 then M 31 1 + 1 else 0) → y = (if M 31 2 + 1 < 24 then M 31 2 + 1 else 24) → Q none (mu (mu M1 31 1 x) 31 2 y) := by
    intro x y hx hy
    refine kk _ ?_ (fun b j hb => by rw [mu_ne (by omega), mu_ne (by omega)]; exact ho1 b j (by omega))
    have hx1 : mu (mu M1 31 1 x) 31 2 y 31 1 = x := by rw [mu_j (by decide), mu_s]
    have hlen : ((keepL L T).length : Int) = (if M 31 2 + 1 < 24 then M 31 2 + 1 else 24) := by
      unfold keepL
      rw [List.length_take, List.length_cons]
      split <;> omega
    have hx2 : 0 ≤ x ∧ x < 24 ∧ (x = M 31 1 + 1 ∨ (M 31 1 = 23 ∧ x = 0)) := by rw [hx]; split <;> omega
    refine ⟨by omega, by omega, by rw [mu_s, hlen]; exact hy, by unfold keepL; rw [List.length_take]; omega, fun i U hi => ?_⟩
    rw [hx1]
    have hi24 : i < 24 := by
      have := (List.getElem?_eq_some_iff.mp hi).1
      unfold keepL at this
      rw [List.length_take] at this
      omega
    unfold keepL at hi
    rw [List.getElem?_take_of_lt hi24] at hi
    cases i with
    | zero =>
      obtain rfl : T = U := by simpa using hi
      rw [show (x.toNat + 23 - 0) % 24 = (M 31 1).toNat by omega]
      exact hR1.fr (fun b j hb hb2 => by rw [mu_ne (by omega), mu_ne (by omega)])
    | succ i =>
      rw [List.getElem?_cons_succ] at hi
      have q := a5 i U hi
      rw [show (x.toNat + 23 - (i + 1)) % 24 = ((M 31 1).toNat + 23 - i) % 24 by omega]
      refine q.fr (fun b j hb hb2 => ?_)
      rw [mu_ne (by omega), mu_ne (by omega)]
      exact ho1 b j (by omega)
  refine k_aload_n i_3_13 rfl ?_
  refine k_aload_n i_3_14 rfl ?_
  refine k_getI (kz := 1) i_3_15 o_3 rfl (by decide) (s_31) rfl ?_
  refine k_iconst i_3_18 (by decide) ?_
  refine k_iadd i_3_19 (by omega) ?_
  refine k_bipush i_3_20 (by decide) ?_
  refine k_icmp_ge (t := 34) i_3_22 rfl (fun h22 => ?_) (fun h22 => ?_)
  · refine k_iconst i_3_34 (by decide) ?_
    refine k_putI (kz := 1) i_3_35 o_3 rfl (by decide) (s_31) rfl ?_
    refine k_aload_n i_3_38 rfl ?_
    refine k_aload_n i_3_39 rfl ?_
    refine k_getI (kz := 2) i_3_40 o_3 rfl (by decide) (s_31) rfl ?_
    rw [mu_j (M := M1) (a := 31) (b := 31) (i := 1) (j := 2) (v := 0) (by decide)]
    refine k_iconst i_3_43 (by decide) ?_
    refine k_iadd i_3_44 (by omega) ?_
    refine k_bipush i_3_45 (by decide) ?_
    refine k_min i_3_47 o_3 rfl rfl ?_
    refine k_putI (kz := 2) i_3_50 o_3 rfl (by decide) (s_31) rfl ?_
    refine k_vret i_3_53 rfl ?_
    exact fin _ _ (by split <;> omega) (by split <;> split <;> omega)
  · refine k_aload_n i_3_25 rfl ?_
    refine k_getI (kz := 1) i_3_26 o_3 rfl (by decide) (s_31) rfl ?_
    refine k_iconst i_3_29 (by decide) ?_
    refine k_iadd i_3_30 (by omega) ?_
    refine k_goto (t := 35) i_3_31 rfl ?_
    refine k_putI (kz := 1) i_3_35 o_3 rfl (by decide) (s_31) rfl ?_
    refine k_aload_n i_3_38 rfl ?_
    refine k_aload_n i_3_39 rfl ?_
    refine k_getI (kz := 2) i_3_40 o_3 rfl (by decide) (s_31) rfl ?_
    rw [mu_j (M := M1) (a := 31) (b := 31) (i := 1) (j := 2) (v := (M1 31 1) + 1) (by decide)]
    refine k_iconst i_3_43 (by decide) ?_
    refine k_iadd i_3_44 (by omega) ?_
    refine k_bipush i_3_45 (by decide) ?_
    refine k_min i_3_47 o_3 rfl rfl ?_
    refine k_putI (kz := 2) i_3_50 o_3 rfl (by decide) (s_31) rfl ?_
    refine k_vret i_3_53 rfl ?_
    exact fin _ _ (by split <;> omega) (by split <;> split <;> omega)

/-- ElbowQueue$Acts.giveBack -/
theorem c_4 {d : Nat} {M : Mem} {Q : Option Vv → Mem → Prop} {K : Kt} {T : Tt} {L : List Tt} (hKo : KOk K 0) (hl : ((tQ T).length : Int) ≤ 16) (hA : ActsC M K (T :: L)) (kk : ∀ M', RepC M' 25 K 0 T → ActsC M' K L → (∀ (b : Nat) (j : Int), ¬ (25 ≤ b ∧ b ≤ 31) → M' b j = M b j) → Q none M') : Ok (d + 1) 4 0 [some (vR (some 31)), some (vR (some 25))] [] M Q := by
  obtain ⟨a1, a2, a3, a4, a5⟩ := id hA
  have a3c : 1 ≤ M 31 2 := by rw [a3, List.length_cons]; omega
  have a4c : M 31 2 ≤ 24 := by rw [a3]; omega
  have fin : ∀ e : Int, (0 ≤ e ∧ e < 24 ∧ (e = M 31 1 - 1 ∨ (M 31 1 = 0 ∧ e = 23))) → Ok (d + 1) 4 22 [some (vR (some 31)), some (vR (some 25))] [] (mu M 31 1 e) Q := by
    intro e he
    have htw := tw_rg e.toNat (by omega)
    refine k_aload_n i_4_22 rfl ?_
    refine k_dupR i_4_23 ?_
    refine k_getI (kz := 2) i_4_24 o_4 rfl (by decide) (s_31) rfl ?_
    rw [mu_j (M := M) (a := 31) (b := 31) (i := 1) (j := 2) (v := e) (by decide)]
    refine k_iconst i_4_27 (by decide) ?_
    refine k_isub i_4_28 (by omega) ?_
    refine k_putI (kz := 2) i_4_29 o_4 rfl (by decide) (s_31) rfl ?_
    refine k_aload_n i_4_32 rfl ?_
    refine k_aload_n i_4_33 rfl ?_
    refine k_getR (r := 32) i_4_34 o_4 rfl (by decide) (s_31) rfl ?_
    refine k_aload_n i_4_37 rfl ?_
    refine k_getI (kz := 1) i_4_38 o_4 rfl (by decide) (s_31) rfl ?_
    rw [mu_j (M := mu M 31 (1) (e)) (a := 31) (b := 31) (i := 2) (j := 1) (v := (M 31 2) - 1) (by decide)]
    rw [mu_s M 31 (1) (e)]
    refine k_aald (r := (33 + 6 * e.toNat)) i_4_41 (s_32) (by decide) (by omega) (tw_rg_rf _ (by omega)) ?_
    have hR : RepC (mu (mu M 31 (1) (e)) 31 (2) ((M 31 2) - 1)) (33 + 6 * e.toNat) K 0 T := by
      refine RepC.fr (M := M) ?_ (fun b j hb hb2 => by rw [mu_ne (by omega), mu_ne (by omega)])
      have q := a5 0 T rfl
      rw [show ((M 31 1).toNat + 23 - 0) % 24 = e.toNat by omega] at q
      exact q
    refine k_invV (n := 1) (o' := 6) (av := [vR (some 25), vR (some ((33 + 6 * e.toNat)))]) (rest := []) (el := [some (vR (some 25)), some (vR (some ((33 + 6 * e.toNat)))), none]) i_4_42 o_4 rfl v_62 rfl (s_25) rfl rfl rfl rfl rfl ?_
    refine c_62 (t := 20) (b := 33 + 6 * e.toNat) tw_25 htw (Or.inl ⟨rfl, rfl⟩) (by omega) hKo hR (hl) (fun M1 hR1 ho1 => ?_)
    show Ok _ 4 45 [some (vR (some 31)), some (vR (some 25))] [] (M1) _
    refine k_vret i_4_45 rfl ?_
    refine kk M1 hR1 ?_ (fun b j hb => by rw [ho1 b j (by omega), mu_ne (by omega), mu_ne (by omega)])
    have e1 : M1 31 1 = e := by rw [ho1 _ _ (by omega), mu_j (by decide), mu_s]
    have e2 : M1 31 2 = M 31 2 - 1 := by rw [ho1 _ _ (by omega), mu_s]
    have a3b : M 31 2 = ((T :: L).length : Int) := a3
    rw [List.length_cons] at a3b
    refine ⟨by omega, by omega, by omega, by rw [List.length_cons] at a4; omega, fun i U hi => ?_⟩
    have q := a5 (i + 1) U (by rw [List.getElem?_cons_succ]; exact hi)
    have hi2 := (List.getElem?_eq_some_iff.mp hi).1
    rw [List.length_cons] at a4
    rw [e1, show (e.toNat + 23 - i) % 24 = ((M 31 1).toNat + 23 - (i + 1)) % 24 by omega]
    refine q.fr (fun b j hb hb2 => ?_)
    rw [ho1 b j (by omega), mu_ne (by omega), mu_ne (by omega)]
  refine k_aload_n i_4_0 rfl ?_
  refine k_aload_n i_4_1 rfl ?_
  refine k_getI (kz := 1) i_4_2 o_4 rfl (by decide) (s_31) rfl ?_
  refine k_if_le (t := 17) i_4_5 rfl (fun h5 => ?_) (fun h5 => ?_)
  · refine k_bipush i_4_17 (by decide) ?_
    refine k_putI (kz := 1) i_4_19 o_4 rfl (by decide) (s_31) rfl ?_
    exact fin _ (by omega)
  · refine k_aload_n i_4_8 rfl ?_
    refine k_getI (kz := 1) i_4_9 o_4 rfl (by decide) (s_31) rfl ?_
    refine k_iconst i_4_12 (by decide) ?_
    refine k_isub i_4_13 (by omega) ?_
    refine k_goto (t := 19) i_4_14 rfl ?_
    refine k_putI (kz := 1) i_4_19 o_4 rfl (by decide) (s_31) rfl ?_
    exact fin _ (by omega)
