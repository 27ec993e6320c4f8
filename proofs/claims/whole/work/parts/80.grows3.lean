theorem c_181i {d : Nat} {M : Mem} {Q : Option Vv → Mem → Prop} {b n : Int} (hb : 0 ≤ b ∧ b ≤ 10) (hn : 0 ≤ n ∧ n ≤ 8) (kk : Q (some (vI ((b.toNat ^ n.toNat : Nat) : Int))) M) : Ok d 181 0 [some (vI b), some (vI n), none, none] [] M Q := by
  have q := c_181 (d := d) (b := b.toNat) (n := n.toNat) (by omega) (by omega) kk
  rw [Int.toNat_of_nonneg hb.1, Int.toNat_of_nonneg hn.1] at q
  exact q

set_option maxRecDepth 100000 in
theorem l_183b {d : Nat} {M0 : Mem} {Q : Option Vv → Mem → Prop} {K : Kt} {T : Tt} {k n c w lf ce sm : Int} {s : Nat} {M1 : Mem} (hKo : KOk K 0) (hKR : RepKR M0 K 0) (hRR : RepR M0 K 0 T) (hT : TOk K 0 T) (hmi : tMi T ≤ 1900) (hn : 0 ≤ n ∧ n ≤ 8) (hs : s < 256) (hw : Wk M0 M1) (kx : ∀ (x9 : Option Vv) M', RepR M' K 0 (goB K n.toNat s T) → OutR M1 M' → Ok (d + 4) 183 143 [some (vR (some 273)), some (vI k), some (vI n), some (vI c), some (vI w), some (vI lf), some (vI ce), some (vI sm), some (vI ((s : Int))), x9] [] M' Q) : ∀ (f : Nat) (t : Nat) (M : Mem), ((t : Int) ≤ n) → (RepR M K 0 (goB K t s T)) → (OutR M1 M) → (n.toNat - t) < f → Ok (d + 4) 183 111 [some (vR (some 273)), some (vI k), some (vI n), some (vI c), some (vI w), some (vI lf), some (vI ce), some (vI sm), some (vI ((s : Int))), some (vI ((t : Int)))] [] M Q := by
  intro f
  induction f with
  | zero => intro t M ht hR1 ho hf; exact absurd hf (Nat.not_lt_zero _)
  | succ f ih =>
    intro t M ht hR1 ho hf
    have hU := hT.goB hKo t (s := s) (by omega)
    have hmi2 := goB_mi (K := K) t s T
    have dl := Nat.div_le_self s (2 ^ t)
    refine k_iload i_183_111 rfl ?_
    refine k_iload_n i_183_113 rfl ?_
    refine k_icmp_ge (t := 143) i_183_114 rfl (fun h114 => ?_) (fun h114 => ?_)
    · obtain rfl : t = n.toNat := by omega
      exact kx _ M hR1 ho
    · refine k_aload_n i_183_117 rfl ?_
      refine k_iload i_183_118 rfl ?_
      refine k_iload i_183_120 rfl ?_
      refine k_ishr (z := ((s / 2 ^ t : Nat) : Int)) i_183_122 (sh_r ⟨s, hs⟩ ⟨t, by omega⟩) ?_
      refine k_iconst i_183_123 (by decide) ?_
      refine k_iand (z := ((s / 2 ^ t % 2 : Nat) : Int)) i_183_124 (an_1 ⟨s / 2 ^ t, by omega⟩) ?_
      refine k_iconst i_183_125 (by decide) ?_
      refine k_icmp_ne (t := 133) i_183_126 rfl (fun h126 => ?_) (fun h126 => ?_)
      · refine k_iconst i_183_133 (by decide) ?_
        refine k_invV (n := 1) (o' := 8) (av := [vR (some 273), vI 0]) (rest := []) (el := [some (vR (some 273)), some (vI 0), none]) i_183_134 o_183 rfl v_153 rfl (s_273) rfl rfl rfl rfl rfl ?_
        refine c_153 hKo (((hw.k hKR)).out hKo ho) hR1 hU (by omega) (fun M2 hR2 ho2 => ?_)
        show Ok _ 183 137 [some (vR (some 273)), some (vI k), some (vI n), some (vI c), some (vI w), some (vI lf), some (vI ce), some (vI sm), some (vI ((s : Int))), some (vI ((t : Int)))] [] (M2) _
        refine k_iinc (ls' := [some (vR (some 273)), some (vI k), some (vI n), some (vI c), some (vI w), some (vI lf), some (vI ce), some (vI sm), some (vI ((s : Int))), some (vI ((t : Int) + 1))]) i_183_137 rfl (by omega) rfl ?_
        refine k_goto (t := 111) i_183_140 rfl ?_
        rw [show (t : Int) + 1 = ((t + 1 : Nat) : Int) by omega]
        refine ih (t + 1) M2 (by omega) ?_ (ho.tr ho2) (by omega)
        rw [goB_s]
        first
          | (rw [h126] ; exact hR2)
          | (rw [show ((s / 2 ^ t % 2 : Nat) : Int) = 0 by omega] ; exact hR2)
      · refine k_iconst i_183_129 (by decide) ?_
        refine k_goto (t := 134) i_183_130 rfl ?_
        refine k_invV (n := 1) (o' := 8) (av := [vR (some 273), vI 1]) (rest := []) (el := [some (vR (some 273)), some (vI 1), none]) i_183_134 o_183 rfl v_153 rfl (s_273) rfl rfl rfl rfl rfl ?_
        refine c_153 hKo (((hw.k hKR)).out hKo ho) hR1 hU (by omega) (fun M2 hR2 ho2 => ?_)
        show Ok _ 183 137 [some (vR (some 273)), some (vI k), some (vI n), some (vI c), some (vI w), some (vI lf), some (vI ce), some (vI sm), some (vI ((s : Int))), some (vI ((t : Int)))] [] (M2) _
        refine k_iinc (ls' := [some (vR (some 273)), some (vI k), some (vI n), some (vI c), some (vI w), some (vI lf), some (vI ce), some (vI sm), some (vI ((s : Int))), some (vI ((t : Int) + 1))]) i_183_137 rfl (by omega) rfl ?_
        refine k_goto (t := 111) i_183_140 rfl ?_
        rw [show (t : Int) + 1 = ((t + 1 : Nat) : Int) by omega]
        refine ih (t + 1) M2 (by omega) ?_ (ho.tr ho2) (by omega)
        rw [goB_s]
        first
          | (rw [h126] ; exact hR2)
          | (rw [show ((s / 2 ^ t % 2 : Nat) : Int) = 0 by omega] ; exact hR2)

theorem p2_b {r : Nat} (h : r ≤ 8) : 2 ^ r ≤ 256 := by
  rcases (show r = 0 ∨ r = 1 ∨ r = 2 ∨ r = 3 ∨ r = 4 ∨ r = 5 ∨ r = 6 ∨ r = 7 ∨ r = 8 by omega) with rfl | rfl | rfl | rfl | rfl | rfl | rfl | rfl | rfl <;> decide

set_option maxRecDepth 100000 in
theorem l_183 {d : Nat} {M0 : Mem} {Q : Option Vv → Mem → Prop} {K : Kt} {T : Tt} {k n c w lf ce : Int} (hKo : KOk K 0) (hKR : RepKR M0 K 0) (hRR : RepR M0 K 0 T) (hT : TOk K 0 T) (hmi : tMi T ≤ 1900) (hn : 0 ≤ n ∧ n ≤ 8) (hc : 0 ≤ c ∧ c ≤ 10) (hce : ce = ((cmN K T n.toNat : Nat) : Int)) (kk : ∀ v M', v = (if w = 0 then ((smF (trm K k c.toNat n.toNat (cmN K T n.toNat) T) (2 ^ cmN K T n.toNat) / Nat.gcd (smF (trm K k c.toNat n.toNat (cmN K T n.toNat) T) (2 ^ cmN K T n.toNat)) (10 ^ cmN K T n.toNat) : Nat) : Int) else ((10 ^ cmN K T n.toNat / Nat.gcd (smF (trm K k c.toNat n.toNat (cmN K T n.toNat) T) (2 ^ cmN K T n.toNat)) (10 ^ cmN K T n.toNat) : Nat) : Int)) → Wk M0 M' → Q (some (vI v)) M') : ∀ (f : Nat) (s : Nat) (x9 : Option Vv) (M : Mem), (s ≤ 2 ^ cmN K T n.toNat) → (Wk M0 M) → (2 ^ cmN K T n.toNat - s) < f → Ok (d + 4) 183 99 [some (vR (some 273)), some (vI k), some (vI n), some (vI c), some (vI w), some (vI lf), some (vI ce), some (vI (((smF (trm K k c.toNat n.toNat (cmN K T n.toNat) T) s : Nat) : Int))), some (vI ((s : Int))), x9] [] M Q := by
  intro f
  induction f with
  | zero => intro s x9 M hsl hw hf; exact absurd hf (Nat.not_lt_zero _)
  | succ f ih =>
    intro s x9 M hsl hw hf
    have hcm : cmN K T n.toNat ≤ 8 := by unfold cmN; omega
    have pb := pow_b hcm
    have p2 := p2_b hcm
    have p10 : 0 < 10 ^ cmN K T n.toNat := Nat.pow_pos (by decide)
    have sb := sm_b K k (c := c.toNat) (by omega) n.toNat T hsl
    have hg0 : 0 < Nat.gcd (smF (trm K k c.toNat n.toNat (cmN K T n.toNat) T) s) (10 ^ cmN K T n.toNat) := Nat.gcd_pos_of_pos_right _ p10
    have hq1 := Nat.div_le_self (smF (trm K k c.toNat n.toNat (cmN K T n.toNat) T) s) (Nat.gcd (smF (trm K k c.toNat n.toNat (cmN K T n.toNat) T) s) (10 ^ cmN K T n.toNat))
    have hq2 := Nat.div_le_self (10 ^ cmN K T n.toNat) (Nat.gcd (smF (trm K k c.toNat n.toNat (cmN K T n.toNat) T) s) (10 ^ cmN K T n.toNat))
    have hz1 : (0 : Int) ≤ ((smF (trm K k c.toNat n.toNat (cmN K T n.toNat) T) s / Nat.gcd (smF (trm K k c.toNat n.toNat (cmN K T n.toNat) T) s) (10 ^ cmN K T n.toNat) : Nat) : Int) := Int.natCast_nonneg _
    have hz2 : (0 : Int) ≤ ((10 ^ cmN K T n.toNat / Nat.gcd (smF (trm K k c.toNat n.toNat (cmN K T n.toNat) T) s) (10 ^ cmN K T n.toNat) : Nat) : Int) := Int.natCast_nonneg _
    refine k_iload i_183_99 rfl ?_
    refine k_iconst i_183_101 (by decide) ?_
    refine k_iload i_183_102 rfl ?_
    refine k_ishl (z := ((2 ^ cmN K T n.toNat : Nat) : Int)) i_183_104 (by rw [hce]; exact sh_l ⟨cmN K T n.toNat, by omega⟩) ?_
    refine k_icmp_ge (t := 200) i_183_105 rfl (fun h105 => ?_) (fun h105 => ?_)
    · refine k_bipush i_183_200 (by decide) ?_
      refine k_iload i_183_202 rfl ?_
      refine k_invS (n := 2) (av := [vI 10, vI ce]) (rest := []) (el := [some (vI 10), some (vI ce), none, none]) i_183_204 o_183 rfl v_181 rfl rfl rfl rfl rfl rfl ?_
      refine c_181i (by omega) (by omega) ?_
      show Ok _ 183 207 [some (vR (some 273)), some (vI k), some (vI n), some (vI c), some (vI w), some (vI lf), some (vI ce), some (vI (((smF (trm K k c.toNat n.toNat (cmN K T n.toNat) T) s : Nat) : Int))), some (vI ((s : Int))), x9] [vI ((((10 : Int).toNat ^ ce.toNat : Nat) : Int))] (M) _
      rw [show (((10 : Int).toNat ^ ce.toNat : Nat) : Int) = ((10 ^ cmN K T n.toNat : Nat) : Int) by rw [hce, Int.toNat_natCast]; rfl]
      refine k_istore (ls' := [some (vR (some 273)), some (vI k), some (vI n), some (vI c), some (vI w), some (vI lf), some (vI ce), some (vI (((smF (trm K k c.toNat n.toNat (cmN K T n.toNat) T) s : Nat) : Int))), some (vI (((10 ^ cmN K T n.toNat : Nat) : Int))), x9]) i_183_207 rfl ?_
      refine k_iload i_183_209 rfl ?_
      refine k_iload i_183_211 rfl ?_
      refine k_invS (n := 2) (av := [vI (((smF (trm K k c.toNat n.toNat (cmN K T n.toNat) T) s : Nat) : Int)), vI (((10 ^ cmN K T n.toNat : Nat) : Int))]) (rest := []) (el := [some (vI (((smF (trm K k c.toNat n.toNat (cmN K T n.toNat) T) s : Nat) : Int))), some (vI (((10 ^ cmN K T n.toNat : Nat) : Int))), none, none, none]) i_183_213 o_183 rfl v_180 rfl rfl rfl rfl rfl rfl ?_
      refine c_180 ⟨by omega, by omega⟩ ?_
      show Ok _ 183 216 [some (vR (some 273)), some (vI k), some (vI n), some (vI c), some (vI w), some (vI lf), some (vI ce), some (vI (((smF (trm K k c.toNat n.toNat (cmN K T n.toNat) T) s : Nat) : Int))), some (vI (((10 ^ cmN K T n.toNat : Nat) : Int))), x9] [vI (((Nat.gcd (smF (trm K k c.toNat n.toNat (cmN K T n.toNat) T) s) (10 ^ cmN K T n.toNat) : Nat) : Int))] (M) _
      refine k_istore (ls' := [some (vR (some 273)), some (vI k), some (vI n), some (vI c), some (vI w), some (vI lf), some (vI ce), some (vI (((smF (trm K k c.toNat n.toNat (cmN K T n.toNat) T) s : Nat) : Int))), some (vI (((10 ^ cmN K T n.toNat : Nat) : Int))), some (vI (((Nat.gcd (smF (trm K k c.toNat n.toNat (cmN K T n.toNat) T) s) (10 ^ cmN K T n.toNat) : Nat) : Int)))]) i_183_216 rfl ?_
      refine k_iload i_183_218 rfl ?_
      refine k_if_ne (t := 231) i_183_220 rfl (fun h220 => ?_) (fun h220 => ?_)
      · refine k_iload i_183_231 rfl ?_
        refine k_iload i_183_233 rfl ?_
        refine k_idiv i_183_235 (by omega) (by rw [tdiv_n]; exact ⟨by omega, by omega⟩) ?_
        rw [tdiv_n]
        refine k_iret i_183_236 rfl ?_
        refine kk _ _ ?_ hw
        obtain rfl : s = 2 ^ cmN K T n.toNat := by omega
        first
          | (rw [if_pos (by omega)]; done)
          | (rw [if_neg (by omega)]; done)
      · refine k_iload i_183_223 rfl ?_
        refine k_iload i_183_225 rfl ?_
        refine k_idiv i_183_227 (by omega) (by rw [tdiv_n]; exact ⟨by omega, by omega⟩) ?_
        rw [tdiv_n]
        refine k_goto (t := 236) i_183_228 rfl ?_
        refine k_iret i_183_236 rfl ?_
        refine kk _ _ ?_ hw
        obtain rfl : s = 2 ^ cmN K T n.toNat := by omega
        first
          | (rw [if_pos (by omega)]; done)
          | (rw [if_neg (by omega)]; done)
    · refine k_iconst i_183_108 (by decide) ?_
      refine k_istore (ls' := [some (vR (some 273)), some (vI k), some (vI n), some (vI c), some (vI w), some (vI lf), some (vI ce), some (vI (((smF (trm K k c.toNat n.toNat (cmN K T n.toNat) T) s : Nat) : Int))), some (vI ((s : Int))), some (vI 0)]) i_183_109 rfl ?_
      have hs2 : s < 2 ^ cmN K T n.toNat := by omega
      have bb := bN_b (cmN K T n.toNat) s
      have hs3 : ((smF (trm K k c.toNat n.toNat (cmN K T n.toNat) T) (s + 1) : Nat) : Int) = ((smF (trm K k c.toNat n.toNat (cmN K T n.toNat) T) s : Nat) : Int) + ((trm K k c.toNat n.toNat (cmN K T n.toNat) T s : Nat) : Int) := Int.natCast_add _ _
      have sb2 := sm_b K k (c := c.toNat) (by omega) n.toNat T (m := s + 1) hs2
      refine l_183b (M0 := M0) (M1 := M) (K := K) (T := T) hKo hKR hRR hT (by omega) hn (by omega) hw (fun x9 M1 hR1 ho1 => ?_) 9 0 M (by omega) (hw.r hRR) (OutR.rf _) (by omega)
      refine k_iload i_183_143 rfl ?_
      refine k_invS (n := 1) (av := [vI ((s : Int))]) (rest := []) (el := [some (vI ((s : Int))), none, none]) i_183_145 o_183 rfl v_182 rfl rfl rfl rfl rfl rfl ?_
      refine c_182 (g := cmN K T n.toNat) ⟨by omega, hs2⟩ (by omega) ?_
      show Ok _ 183 148 [some (vR (some 273)), some (vI k), some (vI n), some (vI c), some (vI w), some (vI lf), some (vI ce), some (vI (((smF (trm K k c.toNat n.toNat (cmN K T n.toNat) T) s : Nat) : Int))), some (vI ((s : Int))), x9] [vI (((bN (cmN K T n.toNat) s : Nat) : Int))] (M1) _
      refine k_istore (ls' := [some (vR (some 273)), some (vI k), some (vI n), some (vI c), some (vI w), some (vI lf), some (vI ce), some (vI (((smF (trm K k c.toNat n.toNat (cmN K T n.toNat) T) s : Nat) : Int))), some (vI ((s : Int))), some (vI (((bN (cmN K T n.toNat) s : Nat) : Int)))]) i_183_148 rfl ?_
      refine k_iload i_183_150 rfl ?_
      refine k_aload_n i_183_152 rfl ?_
      refine k_getR (r := 274) i_183_153 o_183 rfl (by decide) (s_273) rfl ?_
      refine k_sipush i_183_156 (by decide) ?_
      refine k_iald i_183_159 (s_274) (by omega) ?_
      refine k_iload_n i_183_160 rfl ?_
      refine k_icmp_lt (t := 186) i_183_161 rfl (fun h161 => ?_) (fun h161 => ?_)
      · refine k_iconst i_183_186 (by decide) ?_
        refine k_iadd i_183_187 (by first | omega | exact ⟨by omega, by omega⟩) ?_
        have t0 : trm K k c.toNat n.toNat (cmN K T n.toNat) T s = 0 := if_neg (by have := hR1.2.2.2.1; omega)
        rw [show ((smF (trm K k c.toNat n.toNat (cmN K T n.toNat) T) s : Nat) : Int) + 0 = ((smF (trm K k c.toNat n.toNat (cmN K T n.toNat) T) (s + 1) : Nat) : Int) by rw [hs3, t0]; rfl]
        refine k_istore (ls' := [some (vR (some 273)), some (vI k), some (vI n), some (vI c), some (vI w), some (vI lf), some (vI ce), some (vI (((smF (trm K k c.toNat n.toNat (cmN K T n.toNat) T) (s + 1) : Nat) : Int))), some (vI ((s : Int))), some (vI (((bN (cmN K T n.toNat) s : Nat) : Int)))]) i_183_188 rfl ?_
        refine k_aload_n i_183_190 rfl ?_
        refine k_invV (n := 0) (o' := 8) (av := [vR (some 273)]) (rest := []) (el := [some (vR (some 273)), none]) i_183_191 o_183 rfl v_166 rfl (s_273) rfl rfl rfl rfl rfl ?_
        refine c_166 ?_
        show Ok _ 183 194 [some (vR (some 273)), some (vI k), some (vI n), some (vI c), some (vI w), some (vI lf), some (vI ce), some (vI (((smF (trm K k c.toNat n.toNat (cmN K T n.toNat) T) (s + 1) : Nat) : Int))), some (vI ((s : Int))), some (vI (((bN (cmN K T n.toNat) s : Nat) : Int)))] [] (cpn M1 278 274 232) _
        refine k_iinc (ls' := [some (vR (some 273)), some (vI k), some (vI n), some (vI c), some (vI w), some (vI lf), some (vI ce), some (vI (((smF (trm K k c.toNat n.toNat (cmN K T n.toNat) T) (s + 1) : Nat) : Int))), some (vI ((s : Int) + 1)), some (vI (((bN (cmN K T n.toNat) s : Nat) : Int)))]) i_183_194 rfl (by omega) rfl ?_
        refine k_goto (t := 99) i_183_197 rfl ?_
        rw [show (s : Int) + 1 = ((s + 1 : Nat) : Int) by omega]
        exact ih (s + 1) _ _ hs2 (hw.bk ho1.w) (by omega)
      · refine k_iload_n i_183_164 rfl ?_
        refine k_iload i_183_165 rfl ?_
        refine k_invS (n := 2) (av := [vI c, vI (((bN (cmN K T n.toNat) s : Nat) : Int))]) (rest := [vI (((smF (trm K k c.toNat n.toNat (cmN K T n.toNat) T) s : Nat) : Int))]) (el := [some (vI c), some (vI (((bN (cmN K T n.toNat) s : Nat) : Int))), none, none]) i_183_167 o_183 rfl v_181 rfl rfl rfl rfl rfl rfl ?_
        refine c_181i (by omega) (by omega) ?_
        show Ok _ 183 170 [some (vR (some 273)), some (vI k), some (vI n), some (vI c), some (vI w), some (vI lf), some (vI ce), some (vI (((smF (trm K k c.toNat n.toNat (cmN K T n.toNat) T) s : Nat) : Int))), some (vI ((s : Int))), some (vI (((bN (cmN K T n.toNat) s : Nat) : Int)))] [vI (((c.toNat ^ (((bN (cmN K T n.toNat) s : Nat) : Int)).toNat : Nat) : Int)), vI (((smF (trm K k c.toNat n.toNat (cmN K T n.toNat) T) s : Nat) : Int))] (M1) _
        refine k_bipush i_183_170 (by decide) ?_
        refine k_iload_n i_183_172 rfl ?_
        refine k_isub i_183_173 (by omega) ?_
        refine k_iload i_183_174 rfl ?_
        refine k_iload i_183_176 rfl ?_
        refine k_isub i_183_178 (by omega) ?_
        refine k_invS (n := 2) (av := [vI (10 - c), vI (ce - (((bN (cmN K T n.toNat) s : Nat) : Int)))]) (rest := [vI (((c.toNat ^ (((bN (cmN K T n.toNat) s : Nat) : Int)).toNat : Nat) : Int)), vI (((smF (trm K k c.toNat n.toNat (cmN K T n.toNat) T) s : Nat) : Int))]) (el := [some (vI (10 - c)), some (vI (ce - (((bN (cmN K T n.toNat) s : Nat) : Int)))), none, none]) i_183_179 o_183 rfl v_181 rfl rfl rfl rfl rfl rfl ?_
        refine c_181i (by omega) (by omega) ?_
        show Ok _ 183 182 [some (vR (some 273)), some (vI k), some (vI n), some (vI c), some (vI w), some (vI lf), some (vI ce), some (vI (((smF (trm K k c.toNat n.toNat (cmN K T n.toNat) T) s : Nat) : Int))), some (vI ((s : Int))), some (vI (((bN (cmN K T n.toNat) s : Nat) : Int)))] [vI ((((10 - c).toNat ^ (ce - (((bN (cmN K T n.toNat) s : Nat) : Int))).toNat : Nat) : Int)), vI (((c.toNat ^ (((bN (cmN K T n.toNat) s : Nat) : Int)).toNat : Nat) : Int)), vI (((smF (trm K k c.toNat n.toNat (cmN K T n.toNat) T) s : Nat) : Int))] (M1) _
        have hpr : ((c.toNat ^ ((bN (cmN K T n.toNat) s : Nat) : Int).toNat : Nat) : Int) * (((10 - c).toNat ^ (ce - ((bN (cmN K T n.toNat) s : Nat) : Int)).toNat : Nat) : Int) = ((trm K k c.toNat n.toNat (cmN K T n.toNat) T s : Nat) : Int) := by
          have e1 : trm K k c.toNat n.toNat (cmN K T n.toNat) T s = c.toNat ^ bN (cmN K T n.toNat) s * (10 - c.toNat) ^ (cmN K T n.toNat - bN (cmN K T n.toNat) s) := if_pos (by have := hR1.2.2.2.1; omega)
          rw [e1, Int.toNat_natCast, show (10 - c).toNat = 10 - c.toNat by omega, show (ce - ((bN (cmN K T n.toNat) s : Nat) : Int)).toNat = cmN K T n.toNat - bN (cmN K T n.toNat) s by omega, Int.natCast_mul]
        refine k_imul i_183_182 (by rw [hpr]; exact ⟨by omega, by omega⟩) ?_
        rw [hpr]
        refine k_goto (t := 187) i_183_183 rfl ?_
        refine k_iadd i_183_187 (by first | omega | exact ⟨by omega, by omega⟩) ?_
        rw [show ((smF (trm K k c.toNat n.toNat (cmN K T n.toNat) T) s : Nat) : Int) + ((trm K k c.toNat n.toNat (cmN K T n.toNat) T s : Nat) : Int) = ((smF (trm K k c.toNat n.toNat (cmN K T n.toNat) T) (s + 1) : Nat) : Int) from hs3.symm]
        refine k_istore (ls' := [some (vR (some 273)), some (vI k), some (vI n), some (vI c), some (vI w), some (vI lf), some (vI ce), some (vI (((smF (trm K k c.toNat n.toNat (cmN K T n.toNat) T) (s + 1) : Nat) : Int))), some (vI ((s : Int))), some (vI (((bN (cmN K T n.toNat) s : Nat) : Int)))]) i_183_188 rfl ?_
        refine k_aload_n i_183_190 rfl ?_
        refine k_invV (n := 0) (o' := 8) (av := [vR (some 273)]) (rest := []) (el := [some (vR (some 273)), none]) i_183_191 o_183 rfl v_166 rfl (s_273) rfl rfl rfl rfl rfl ?_
        refine c_166 ?_
        show Ok _ 183 194 [some (vR (some 273)), some (vI k), some (vI n), some (vI c), some (vI w), some (vI lf), some (vI ce), some (vI (((smF (trm K k c.toNat n.toNat (cmN K T n.toNat) T) (s + 1) : Nat) : Int))), some (vI ((s : Int))), some (vI (((bN (cmN K T n.toNat) s : Nat) : Int)))] [] (cpn M1 278 274 232) _
        refine k_iinc (ls' := [some (vR (some 273)), some (vI k), some (vI n), some (vI c), some (vI w), some (vI lf), some (vI ce), some (vI (((smF (trm K k c.toNat n.toNat (cmN K T n.toNat) T) (s + 1) : Nat) : Int))), some (vI ((s : Int) + 1)), some (vI (((bN (cmN K T n.toNat) s : Nat) : Int)))]) i_183_194 rfl (by omega) rfl ?_
        refine k_goto (t := 99) i_183_197 rfl ?_
        rw [show (s : Int) + 1 = ((s + 1 : Nat) : Int) by omega]
        exact ih (s + 1) _ _ hs2 (hw.bk ho1.w) (by omega)
