def askV (kd w x s b : Int) : Int := if w = 0 then (if kd = 1 then s + (x + b) else if kd = 2 then -(s + (2 * (x + b))) else if kd = 3 then s + (x + b - 1000) else if kd = 4 then s - 100 else 2 * (s - 100)) else (if kd = 1 then x + b else if kd = 2 then 2 * (x + b) else if kd = 3 then x + b - 1000 else if kd = 4 then x - (s - 100) else x - (2 * (s - 100)))
def askL (kd w : Int) : List Int := if w = 0 then (if kd = 1 then [11, 10, 21, 20] else if kd = 2 then [12, 11, 10, 24, 21, 20] else if kd = 3 then [11, 10, 22, 21, 20] else if kd = 4 then [13, 10] else [14, 13, 10]) else (if kd = 1 then [21, 20] else if kd = 2 then [24, 21, 20] else if kd = 3 then [22, 21, 20] else if kd = 4 then [23, 20, 13, 10] else [23, 20, 14, 13, 10])
theorem askL_b {kd w : Int} : (askL kd w).length ≤ 6 := by
  unfold askL
  repeat (first | decide | split)

set_option maxRecDepth 100000 in
/-- ElbowQueue$Asks.begin -/
theorem c_8_1_0 {d : Nat} {M : Mem} {Q : Option Vv → Mem → Prop} {K : Kt} {T : Tt} {x : Int} (hKo : KOk K 0) (hT : TOk K 0 T) (hK : RepK M 20 K 0) (hR : RepC M 25 K 0 T) (hv : Va K 0 x) (hk : kKd K x = 1) (k : Q (some (vI (tS T x + (x + bel K T x)))) (apL 246 247 3 (mu M 246 3 0) [11, 10, 21, 20])) : Ok (d + 8) 8 0 [some (vR (some 246)), some (vI x), some (vI 0)] [] M Q := by
  refine k_aload_n i_8_0 rfl ?_
  refine k_iconst i_8_1 (by decide) ?_
  refine k_putI (kz := 3) i_8_2 o_8 rfl (by decide) (s_246) rfl ?_
  refine k_aload_n i_8_5 rfl ?_
  refine k_iload_n i_8_6 rfl ?_
  refine k_iload_n i_8_7 rfl ?_
  refine k_iconst i_8_8 (by decide) ?_
  refine k_invV (n := 3) (o' := 1) (av := [vR (some 246), vI x, vI 0, vI 0]) (rest := []) (el := [some (vR (some 246)), some (vI x), some (vI 0), some (vI 0), none, none]) i_8_9 o_8 rfl v_9 rfl (s_246) rfl rfl rfl rfl rfl ?_
  refine a_1_0 (d := d + 2) (n := 0) hKo hT ⟨hK.fr (fun b j h0 h1 => mu_ne (by omega) j), hR.fr (fun b j h0 h1 => mu_ne (by omega) j), by rw [mu_s]; exact Int.le_refl _, by rw [mu_s]; exact Int.le_refl _⟩ hv (by decide) hk (by decide) ?_
  show Ok _ 8 12 [some (vR (some 246)), some (vI x), some (vI 0)] [vI (tS T x + (x + bel K T x))] (apL 246 247 3 (mu M 246 (3) (0)) [11, 10, 21, 20]) _
  refine k_iret i_8_12 rfl ?_
  exact k

set_option maxRecDepth 100000 in
/-- ElbowQueue$Asks.begin -/
theorem c_8_1_1 {d : Nat} {M : Mem} {Q : Option Vv → Mem → Prop} {K : Kt} {T : Tt} {x : Int} (hKo : KOk K 0) (hT : TOk K 0 T) (hK : RepK M 20 K 0) (hR : RepC M 25 K 0 T) (hv : Va K 0 x) (hk : kKd K x = 1) (k : Q (some (vI (x + bel K T x))) (apL 246 247 3 (mu M 246 3 0) [21, 20])) : Ok (d + 8) 8 0 [some (vR (some 246)), some (vI x), some (vI 1)] [] M Q := by
  refine k_aload_n i_8_0 rfl ?_
  refine k_iconst i_8_1 (by decide) ?_
  refine k_putI (kz := 3) i_8_2 o_8 rfl (by decide) (s_246) rfl ?_
  refine k_aload_n i_8_5 rfl ?_
  refine k_iload_n i_8_6 rfl ?_
  refine k_iload_n i_8_7 rfl ?_
  refine k_iconst i_8_8 (by decide) ?_
  refine k_invV (n := 3) (o' := 1) (av := [vR (some 246), vI x, vI 1, vI 0]) (rest := []) (el := [some (vR (some 246)), some (vI x), some (vI 1), some (vI 0), none, none]) i_8_9 o_8 rfl v_9 rfl (s_246) rfl rfl rfl rfl rfl ?_
  refine a_1_1 (d := d + 4) (n := 0) hKo hT ⟨hK.fr (fun b j h0 h1 => mu_ne (by omega) j), hR.fr (fun b j h0 h1 => mu_ne (by omega) j), by rw [mu_s]; exact Int.le_refl _, by rw [mu_s]; exact Int.le_refl _⟩ hv (by decide) hk (by decide) ?_
  show Ok _ 8 12 [some (vR (some 246)), some (vI x), some (vI 1)] [vI (x + bel K T x)] (apL 246 247 3 (mu M 246 (3) (0)) [21, 20]) _
  refine k_iret i_8_12 rfl ?_
  exact k

set_option maxRecDepth 100000 in
/-- ElbowQueue$Asks.begin -/
theorem c_8_2_0 {d : Nat} {M : Mem} {Q : Option Vv → Mem → Prop} {K : Kt} {T : Tt} {x : Int} (hKo : KOk K 0) (hT : TOk K 0 T) (hK : RepK M 20 K 0) (hR : RepC M 25 K 0 T) (hv : Va K 0 x) (hk : kKd K x = 2) (k : Q (some (vI (-(tS T x + (2 * (x + bel K T x)))))) (apL 246 247 3 (mu M 246 3 0) [12, 11, 10, 24, 21, 20])) : Ok (d + 8) 8 0 [some (vR (some 246)), some (vI x), some (vI 0)] [] M Q := by
  refine k_aload_n i_8_0 rfl ?_
  refine k_iconst i_8_1 (by decide) ?_
  refine k_putI (kz := 3) i_8_2 o_8 rfl (by decide) (s_246) rfl ?_
  refine k_aload_n i_8_5 rfl ?_
  refine k_iload_n i_8_6 rfl ?_
  refine k_iload_n i_8_7 rfl ?_
  refine k_iconst i_8_8 (by decide) ?_
  refine k_invV (n := 3) (o' := 1) (av := [vR (some 246), vI x, vI 0, vI 0]) (rest := []) (el := [some (vR (some 246)), some (vI x), some (vI 0), some (vI 0), none, none]) i_8_9 o_8 rfl v_9 rfl (s_246) rfl rfl rfl rfl rfl ?_
  refine a_2_0 (d := d + 0) (n := 0) hKo hT ⟨hK.fr (fun b j h0 h1 => mu_ne (by omega) j), hR.fr (fun b j h0 h1 => mu_ne (by omega) j), by rw [mu_s]; exact Int.le_refl _, by rw [mu_s]; exact Int.le_refl _⟩ hv (by decide) hk (by decide) ?_
  show Ok _ 8 12 [some (vR (some 246)), some (vI x), some (vI 0)] [vI (-(tS T x + (2 * (x + bel K T x))))] (apL 246 247 3 (mu M 246 (3) (0)) [12, 11, 10, 24, 21, 20]) _
  refine k_iret i_8_12 rfl ?_
  exact k

set_option maxRecDepth 100000 in
/-- ElbowQueue$Asks.begin -/
theorem c_8_2_1 {d : Nat} {M : Mem} {Q : Option Vv → Mem → Prop} {K : Kt} {T : Tt} {x : Int} (hKo : KOk K 0) (hT : TOk K 0 T) (hK : RepK M 20 K 0) (hR : RepC M 25 K 0 T) (hv : Va K 0 x) (hk : kKd K x = 2) (k : Q (some (vI (2 * (x + bel K T x)))) (apL 246 247 3 (mu M 246 3 0) [24, 21, 20])) : Ok (d + 8) 8 0 [some (vR (some 246)), some (vI x), some (vI 1)] [] M Q := by
  refine k_aload_n i_8_0 rfl ?_
  refine k_iconst i_8_1 (by decide) ?_
  refine k_putI (kz := 3) i_8_2 o_8 rfl (by decide) (s_246) rfl ?_
  refine k_aload_n i_8_5 rfl ?_
  refine k_iload_n i_8_6 rfl ?_
  refine k_iload_n i_8_7 rfl ?_
  refine k_iconst i_8_8 (by decide) ?_
  refine k_invV (n := 3) (o' := 1) (av := [vR (some 246), vI x, vI 1, vI 0]) (rest := []) (el := [some (vR (some 246)), some (vI x), some (vI 1), some (vI 0), none, none]) i_8_9 o_8 rfl v_9 rfl (s_246) rfl rfl rfl rfl rfl ?_
  refine a_2_1 (d := d + 3) (n := 0) hKo hT ⟨hK.fr (fun b j h0 h1 => mu_ne (by omega) j), hR.fr (fun b j h0 h1 => mu_ne (by omega) j), by rw [mu_s]; exact Int.le_refl _, by rw [mu_s]; exact Int.le_refl _⟩ hv (by decide) hk (by decide) ?_
  show Ok _ 8 12 [some (vR (some 246)), some (vI x), some (vI 1)] [vI (2 * (x + bel K T x))] (apL 246 247 3 (mu M 246 (3) (0)) [24, 21, 20]) _
  refine k_iret i_8_12 rfl ?_
  exact k

set_option maxRecDepth 100000 in
/-- ElbowQueue$Asks.begin -/
theorem c_8_3_0 {d : Nat} {M : Mem} {Q : Option Vv → Mem → Prop} {K : Kt} {T : Tt} {x : Int} (hKo : KOk K 0) (hT : TOk K 0 T) (hK : RepK M 20 K 0) (hR : RepC M 25 K 0 T) (hv : Va K 0 x) (hk : kKd K x = 3) (k : Q (some (vI (tS T x + (x + bel K T x - 1000)))) (apL 246 247 3 (mu M 246 3 0) [11, 10, 22, 21, 20])) : Ok (d + 8) 8 0 [some (vR (some 246)), some (vI x), some (vI 0)] [] M Q := by
  refine k_aload_n i_8_0 rfl ?_
  refine k_iconst i_8_1 (by decide) ?_
  refine k_putI (kz := 3) i_8_2 o_8 rfl (by decide) (s_246) rfl ?_
  refine k_aload_n i_8_5 rfl ?_
  refine k_iload_n i_8_6 rfl ?_
  refine k_iload_n i_8_7 rfl ?_
  refine k_iconst i_8_8 (by decide) ?_
  refine k_invV (n := 3) (o' := 1) (av := [vR (some 246), vI x, vI 0, vI 0]) (rest := []) (el := [some (vR (some 246)), some (vI x), some (vI 0), some (vI 0), none, none]) i_8_9 o_8 rfl v_9 rfl (s_246) rfl rfl rfl rfl rfl ?_
  refine a_3_0 (d := d + 1) (n := 0) hKo hT ⟨hK.fr (fun b j h0 h1 => mu_ne (by omega) j), hR.fr (fun b j h0 h1 => mu_ne (by omega) j), by rw [mu_s]; exact Int.le_refl _, by rw [mu_s]; exact Int.le_refl _⟩ hv (by decide) hk (by decide) ?_
  show Ok _ 8 12 [some (vR (some 246)), some (vI x), some (vI 0)] [vI (tS T x + (x + bel K T x - 1000))] (apL 246 247 3 (mu M 246 (3) (0)) [11, 10, 22, 21, 20]) _
  refine k_iret i_8_12 rfl ?_
  exact k

set_option maxRecDepth 100000 in
/-- ElbowQueue$Asks.begin -/
theorem c_8_3_1 {d : Nat} {M : Mem} {Q : Option Vv → Mem → Prop} {K : Kt} {T : Tt} {x : Int} (hKo : KOk K 0) (hT : TOk K 0 T) (hK : RepK M 20 K 0) (hR : RepC M 25 K 0 T) (hv : Va K 0 x) (hk : kKd K x = 3) (k : Q (some (vI (x + bel K T x - 1000))) (apL 246 247 3 (mu M 246 3 0) [22, 21, 20])) : Ok (d + 8) 8 0 [some (vR (some 246)), some (vI x), some (vI 1)] [] M Q := by
  refine k_aload_n i_8_0 rfl ?_
  refine k_iconst i_8_1 (by decide) ?_
  refine k_putI (kz := 3) i_8_2 o_8 rfl (by decide) (s_246) rfl ?_
  refine k_aload_n i_8_5 rfl ?_
  refine k_iload_n i_8_6 rfl ?_
  refine k_iload_n i_8_7 rfl ?_
  refine k_iconst i_8_8 (by decide) ?_
  refine k_invV (n := 3) (o' := 1) (av := [vR (some 246), vI x, vI 1, vI 0]) (rest := []) (el := [some (vR (some 246)), some (vI x), some (vI 1), some (vI 0), none, none]) i_8_9 o_8 rfl v_9 rfl (s_246) rfl rfl rfl rfl rfl ?_
  refine a_3_1 (d := d + 3) (n := 0) hKo hT ⟨hK.fr (fun b j h0 h1 => mu_ne (by omega) j), hR.fr (fun b j h0 h1 => mu_ne (by omega) j), by rw [mu_s]; exact Int.le_refl _, by rw [mu_s]; exact Int.le_refl _⟩ hv (by decide) hk (by decide) ?_
  show Ok _ 8 12 [some (vR (some 246)), some (vI x), some (vI 1)] [vI (x + bel K T x - 1000)] (apL 246 247 3 (mu M 246 (3) (0)) [22, 21, 20]) _
  refine k_iret i_8_12 rfl ?_
  exact k

set_option maxRecDepth 100000 in
/-- ElbowQueue$Asks.begin -/
theorem c_8_4_0 {d : Nat} {M : Mem} {Q : Option Vv → Mem → Prop} {K : Kt} {T : Tt} {x : Int} (hKo : KOk K 0) (hT : TOk K 0 T) (hK : RepK M 20 K 0) (hR : RepC M 25 K 0 T) (hv : Va K 0 x) (hk : kKd K x = 4) (k : Q (some (vI (tS T x - 100))) (apL 246 247 3 (mu M 246 3 0) [13, 10])) : Ok (d + 8) 8 0 [some (vR (some 246)), some (vI x), some (vI 0)] [] M Q := by
  refine k_aload_n i_8_0 rfl ?_
  refine k_iconst i_8_1 (by decide) ?_
  refine k_putI (kz := 3) i_8_2 o_8 rfl (by decide) (s_246) rfl ?_
  refine k_aload_n i_8_5 rfl ?_
  refine k_iload_n i_8_6 rfl ?_
  refine k_iload_n i_8_7 rfl ?_
  refine k_iconst i_8_8 (by decide) ?_
  refine k_invV (n := 3) (o' := 1) (av := [vR (some 246), vI x, vI 0, vI 0]) (rest := []) (el := [some (vR (some 246)), some (vI x), some (vI 0), some (vI 0), none, none]) i_8_9 o_8 rfl v_9 rfl (s_246) rfl rfl rfl rfl rfl ?_
  refine a_4_0 (d := d + 4) (n := 0) hKo hT ⟨hK.fr (fun b j h0 h1 => mu_ne (by omega) j), hR.fr (fun b j h0 h1 => mu_ne (by omega) j), by rw [mu_s]; exact Int.le_refl _, by rw [mu_s]; exact Int.le_refl _⟩ hv (by decide) hk (by decide) ?_
  show Ok _ 8 12 [some (vR (some 246)), some (vI x), some (vI 0)] [vI (tS T x - 100)] (apL 246 247 3 (mu M 246 (3) (0)) [13, 10]) _
  refine k_iret i_8_12 rfl ?_
  exact k

set_option maxRecDepth 100000 in
/-- ElbowQueue$Asks.begin -/
theorem c_8_4_1 {d : Nat} {M : Mem} {Q : Option Vv → Mem → Prop} {K : Kt} {T : Tt} {x : Int} (hKo : KOk K 0) (hT : TOk K 0 T) (hK : RepK M 20 K 0) (hR : RepC M 25 K 0 T) (hv : Va K 0 x) (hk : kKd K x = 4) (k : Q (some (vI (x - (tS T x - 100)))) (apL 246 247 3 (mu M 246 3 0) [23, 20, 13, 10])) : Ok (d + 8) 8 0 [some (vR (some 246)), some (vI x), some (vI 1)] [] M Q := by
  refine k_aload_n i_8_0 rfl ?_
  refine k_iconst i_8_1 (by decide) ?_
  refine k_putI (kz := 3) i_8_2 o_8 rfl (by decide) (s_246) rfl ?_
  refine k_aload_n i_8_5 rfl ?_
  refine k_iload_n i_8_6 rfl ?_
  refine k_iload_n i_8_7 rfl ?_
  refine k_iconst i_8_8 (by decide) ?_
  refine k_invV (n := 3) (o' := 1) (av := [vR (some 246), vI x, vI 1, vI 0]) (rest := []) (el := [some (vR (some 246)), some (vI x), some (vI 1), some (vI 0), none, none]) i_8_9 o_8 rfl v_9 rfl (s_246) rfl rfl rfl rfl rfl ?_
  refine a_4_1 (d := d + 2) (n := 0) hKo hT ⟨hK.fr (fun b j h0 h1 => mu_ne (by omega) j), hR.fr (fun b j h0 h1 => mu_ne (by omega) j), by rw [mu_s]; exact Int.le_refl _, by rw [mu_s]; exact Int.le_refl _⟩ hv (by decide) hk (by decide) ?_
  show Ok _ 8 12 [some (vR (some 246)), some (vI x), some (vI 1)] [vI (x - (tS T x - 100))] (apL 246 247 3 (mu M 246 (3) (0)) [23, 20, 13, 10]) _
  refine k_iret i_8_12 rfl ?_
  exact k

set_option maxRecDepth 100000 in
/-- ElbowQueue$Asks.begin -/
theorem c_8_5_0 {d : Nat} {M : Mem} {Q : Option Vv → Mem → Prop} {K : Kt} {T : Tt} {x : Int} (hKo : KOk K 0) (hT : TOk K 0 T) (hK : RepK M 20 K 0) (hR : RepC M 25 K 0 T) (hv : Va K 0 x) (hk : kKd K x = 5) (k : Q (some (vI (2 * (tS T x - 100)))) (apL 246 247 3 (mu M 246 3 0) [14, 13, 10])) : Ok (d + 8) 8 0 [some (vR (some 246)), some (vI x), some (vI 0)] [] M Q := by
  refine k_aload_n i_8_0 rfl ?_
  refine k_iconst i_8_1 (by decide) ?_
  refine k_putI (kz := 3) i_8_2 o_8 rfl (by decide) (s_246) rfl ?_
  refine k_aload_n i_8_5 rfl ?_
  refine k_iload_n i_8_6 rfl ?_
  refine k_iload_n i_8_7 rfl ?_
  refine k_iconst i_8_8 (by decide) ?_
  refine k_invV (n := 3) (o' := 1) (av := [vR (some 246), vI x, vI 0, vI 0]) (rest := []) (el := [some (vR (some 246)), some (vI x), some (vI 0), some (vI 0), none, none]) i_8_9 o_8 rfl v_9 rfl (s_246) rfl rfl rfl rfl rfl ?_
  refine a_5_0 (d := d + 3) (n := 0) hKo hT ⟨hK.fr (fun b j h0 h1 => mu_ne (by omega) j), hR.fr (fun b j h0 h1 => mu_ne (by omega) j), by rw [mu_s]; exact Int.le_refl _, by rw [mu_s]; exact Int.le_refl _⟩ hv (by decide) hk (by decide) ?_
  show Ok _ 8 12 [some (vR (some 246)), some (vI x), some (vI 0)] [vI (2 * (tS T x - 100))] (apL 246 247 3 (mu M 246 (3) (0)) [14, 13, 10]) _
  refine k_iret i_8_12 rfl ?_
  exact k

set_option maxRecDepth 100000 in
/-- ElbowQueue$Asks.begin -/
theorem c_8_5_1 {d : Nat} {M : Mem} {Q : Option Vv → Mem → Prop} {K : Kt} {T : Tt} {x : Int} (hKo : KOk K 0) (hT : TOk K 0 T) (hK : RepK M 20 K 0) (hR : RepC M 25 K 0 T) (hv : Va K 0 x) (hk : kKd K x = 5) (k : Q (some (vI (x - (2 * (tS T x - 100))))) (apL 246 247 3 (mu M 246 3 0) [23, 20, 14, 13, 10])) : Ok (d + 8) 8 0 [some (vR (some 246)), some (vI x), some (vI 1)] [] M Q := by
  refine k_aload_n i_8_0 rfl ?_
  refine k_iconst i_8_1 (by decide) ?_
  refine k_putI (kz := 3) i_8_2 o_8 rfl (by decide) (s_246) rfl ?_
  refine k_aload_n i_8_5 rfl ?_
  refine k_iload_n i_8_6 rfl ?_
  refine k_iload_n i_8_7 rfl ?_
  refine k_iconst i_8_8 (by decide) ?_
  refine k_invV (n := 3) (o' := 1) (av := [vR (some 246), vI x, vI 1, vI 0]) (rest := []) (el := [some (vR (some 246)), some (vI x), some (vI 1), some (vI 0), none, none]) i_8_9 o_8 rfl v_9 rfl (s_246) rfl rfl rfl rfl rfl ?_
  refine a_5_1 (d := d + 1) (n := 0) hKo hT ⟨hK.fr (fun b j h0 h1 => mu_ne (by omega) j), hR.fr (fun b j h0 h1 => mu_ne (by omega) j), by rw [mu_s]; exact Int.le_refl _, by rw [mu_s]; exact Int.le_refl _⟩ hv (by decide) hk (by decide) ?_
  show Ok _ 8 12 [some (vR (some 246)), some (vI x), some (vI 1)] [vI (x - (2 * (tS T x - 100)))] (apL 246 247 3 (mu M 246 (3) (0)) [23, 20, 14, 13, 10]) _
  refine k_iret i_8_12 rfl ?_
  exact k

theorem c_8 {d : Nat} {M : Mem} {Q : Option Vv → Mem → Prop} {K : Kt} {T : Tt} {x w : Int} (hKo : KOk K 0) (hT : TOk K 0 T) (hK : RepK M 20 K 0) (hR : RepC M 25 K 0 T) (hv : Va K 0 x) (hw : 0 ≤ w ∧ w ≤ 1) (k : Q (some (vI (askV (kKd K x) w x (tS T x) (bel K T x)))) (apL 246 247 3 (mu M 246 3 0) (askL (kKd K x) w))) : Ok (d + 8) 8 0 [some (vR (some 246)), some (vI x), some (vI w)] [] M Q := by
  have hkd := hKo.2 x hv
  rcases (show w = 0 ∨ w = 1 by omega) with rfl | rfl
  · rcases (show kKd K x = 1 ∨ kKd K x = 2 ∨ kKd K x = 3 ∨ kKd K x = 4 ∨ kKd K x = 5 by omega) with q | q | q | q | q
    · rw [q] at k; exact c_8_1_0 hKo hT hK hR hv q k
    · rw [q] at k; exact c_8_2_0 hKo hT hK hR hv q k
    · rw [q] at k; exact c_8_3_0 hKo hT hK hR hv q k
    · rw [q] at k; exact c_8_4_0 hKo hT hK hR hv q k
    · rw [q] at k; exact c_8_5_0 hKo hT hK hR hv q k
  · rcases (show kKd K x = 1 ∨ kKd K x = 2 ∨ kKd K x = 3 ∨ kKd K x = 4 ∨ kKd K x = 5 by omega) with q | q | q | q | q
    · rw [q] at k; exact c_8_1_1 hKo hT hK hR hv q k
    · rw [q] at k; exact c_8_2_1 hKo hT hK hR hv q k
    · rw [q] at k; exact c_8_3_1 hKo hT hK hR hv q k
    · rw [q] at k; exact c_8_4_1 hKo hT hK hR hv q k
    · rw [q] at k; exact c_8_5_1 hKo hT hK hR hv q k

def AskR (M : Mem) (K : Kt) (T : Tt) (n : Int) : Prop := RepKR M K 0 ∧ RepR M K 0 T ∧ 0 ≤ M 273 21 ∧ M 273 21 ≤ n
theorem RepKR.fr {M M' : Mem} {K : Kt} {m : Int} (h : RepKR M K m) (he : ∀ j, M' 274 j = M 274 j) : RepKR M' K m := by
  refine ⟨by rw [he]; exact h.1, by rw [he]; exact h.2.1, fun p hp => ?_⟩
  rw [he, he, he]
  exact h.2.2 p hp
theorem AskR.ap {M : Mem} {K : Kt} {T : Tt} {n : Int} (h : AskR M K T n) (b : Int) : AskR (ap 273 288 21 M b) K T (n + 1) := by
  obtain ⟨h1, h2, h3, h4⟩ := h
  refine ⟨h1.fr (fun j => ap_ne (by omega) (by omega) j), h2.off (fun j => ap_ne (by omega) (by omega) j), ?_, ?_⟩ <;> rw [ap_n] <;> omega
theorem AskR.apl {M : Mem} {K : Kt} {T : Tt} {n : Int} (l : List Int) (h : AskR M K T n) : AskR (apL 273 288 21 M l) K T (n + l.length) := by
  obtain ⟨h1, h2, h3, h4⟩ := h
  refine ⟨h1.fr (fun j => apL_ne (by omega) (by omega) j l M), h2.off (fun j => apL_ne (by omega) (by omega) j l M), ?_, ?_⟩ <;> rw [apL_n] <;> omega

set_option maxRecDepth 100000 in
/-- ElbowQueueModel.note -/
theorem c_192 {d : Nat} {M : Mem} {Q : Option Vv → Mem → Prop} {b : Int} (hl : 0 ≤ M 273 21 ∧ M 273 21 < 16) (k : Q none (ap 273 288 21 M b)) : Ok d 192 0 [some (vR (some 273)), some (vI b)] [] M Q := by
  refine k_aload_n i_192_0 rfl ?_
  refine k_getI (kz := 21) i_192_1 o_192 rfl (by decide) (s_273) rfl ?_
  refine k_bipush i_192_4 (by decide) ?_
  refine k_icmp_ge (t := 29) i_192_6 rfl (fun h6 => absurd h6 (by omega)) (fun h6 => ?_)
  refine k_aload_n i_192_9 rfl ?_
  refine k_getR (r := 288) i_192_10 o_192 rfl (by decide) (s_273) rfl ?_
  refine k_aload_n i_192_13 rfl ?_
  refine k_getI (kz := 21) i_192_14 o_192 rfl (by decide) (s_273) rfl ?_
  refine k_iload_n i_192_17 rfl ?_
  refine k_iast i_192_18 (s_288) (by omega) ?_
  refine k_aload_n i_192_19 rfl ?_
  refine k_dupR i_192_20 ?_
  refine k_getI (kz := 21) i_192_21 o_192 rfl (by decide) (s_273) rfl ?_
  rw [mu_ne (M := M) (a := 288) (b := 273) (i := M 273 21) (x := b) (by omega)]
  refine k_iconst i_192_24 (by decide) ?_
  refine k_iadd i_192_25 (by omega) ?_
  refine k_putI (kz := 21) i_192_26 o_192 rfl (by decide) (s_273) rfl ?_
  refine k_vret i_192_29 rfl ?_
  exact k

set_option maxRecDepth 100000 in
/-- ElbowQueueModel.above -/
theorem c_190 {d : Nat} {M : Mem} {Q : Option Vv → Mem → Prop} {x : Int}  (k : Q (some (vI (if x = 5 then 4 else if x = 2 ∨ x = 3 then 1 else 0))) M) : Ok d 190 0 [some (vI x)] [] M Q := by
  refine k_iload_n i_190_0 rfl ?_
  refine k_iconst i_190_1 (by decide) ?_
  refine k_icmp_ne (t := 9) i_190_2 rfl (fun h2 => ?_) (fun h2 => ?_)
  · refine k_iload_n i_190_9 rfl ?_
    refine k_iconst i_190_10 (by decide) ?_
    refine k_icmp_eq (t := 19) i_190_11 rfl (fun h11 => ?_) (fun h11 => ?_)
    · refine k_iconst i_190_19 (by decide) ?_
      refine k_goto (t := 24) i_190_20 rfl ?_
      refine k_iret i_190_24 rfl ?_
      first
        | (rw [if_pos (by omega)] at k; exact k)
        | (rw [if_neg (by omega), if_pos (by omega)] at k; exact k)
        | (rw [if_neg (by omega), if_neg (by omega)] at k; exact k)
    · refine k_iload_n i_190_14 rfl ?_
      refine k_iconst i_190_15 (by decide) ?_
      refine k_icmp_ne (t := 23) i_190_16 rfl (fun h16 => ?_) (fun h16 => ?_)
      · refine k_iconst i_190_23 (by decide) ?_
        refine k_iret i_190_24 rfl ?_
        first
          | (rw [if_pos (by omega)] at k; exact k)
          | (rw [if_neg (by omega), if_pos (by omega)] at k; exact k)
          | (rw [if_neg (by omega), if_neg (by omega)] at k; exact k)
      · refine k_iconst i_190_19 (by decide) ?_
        refine k_goto (t := 24) i_190_20 rfl ?_
        refine k_iret i_190_24 rfl ?_
        first
          | (rw [if_pos (by omega)] at k; exact k)
          | (rw [if_neg (by omega), if_pos (by omega)] at k; exact k)
          | (rw [if_neg (by omega), if_neg (by omega)] at k; exact k)
  · refine k_iconst i_190_5 (by decide) ?_
    refine k_goto (t := 24) i_190_6 rfl ?_
    refine k_iret i_190_24 rfl ?_
    first
      | (rw [if_pos (by omega)] at k; exact k)
      | (rw [if_neg (by omega), if_pos (by omega)] at k; exact k)
      | (rw [if_neg (by omega), if_neg (by omega)] at k; exact k)

set_option maxRecDepth 100000 in
/-- ElbowQueueModel.isFirstOne -/
theorem c_145 {d : Nat} {M : Mem} {Q : Option Vv → Mem → Prop} {K : Kt} {m : Int} {T : Tt} {i : Int} (hKo : KOk K m) (hK : RepKR M K m) (hR : RepR M K m T) (hv : Va K m i) (k : ∀ v : Int, (v = 1 ∧ (kKd K i = 4 ∨ kKd K i = 5)) ∨ (v = 0 ∧ ¬ (kKd K i = 4 ∨ kKd K i = 5)) → Q (some (vI v)) M) : Ok d 145 0 [some (vR (some 273)), some (vI i)] [] M Q := by
  obtain ⟨⟨g1, g2, g3, g4, g5, g6, g7, g8⟩, hKp⟩ := id hKo
  obtain ⟨r1, r2, r3, r4, r5, rq, rp⟩ := id hR
  have k1 : M 274 229 = kPe K := hK.1
  have k2 : M 274 230 = kPe K - kWt K := hK.2.1
  have hvb := va_b hKo hv
  obtain ⟨e2, e3, e4, e5⟩ := rp i hv
  have e1 : M 274 (145 + i) = kKd K i := (hK.2.2 i hv).1
  have e6 : M 274 (173 + i) = kPa K i := (hK.2.2 i hv).2.1
  have e7 := hKp i hv
  refine k_aload_n i_145_0 rfl ?_
  refine k_getR (r := 274) i_145_1 o_145 rfl (by decide) (s_273) rfl ?_
  refine k_sipush i_145_4 (by decide) ?_
  refine k_iload_n i_145_7 rfl ?_
  refine k_iadd i_145_8 (by omega) ?_
  refine k_iald i_145_9 (s_274) (by omega) ?_
  refine k_iconst i_145_10 (by decide) ?_
  refine k_icmp_eq (t := 28) i_145_11 rfl (fun h11 => ?_) (fun h11 => ?_)
  · refine k_iconst i_145_28 (by decide) ?_
    refine k_goto (t := 33) i_145_29 rfl ?_
    refine k_zret i_145_33 rfl (by omega) ?_
    exact k _ (by omega)
  · refine k_aload_n i_145_14 rfl ?_
    refine k_getR (r := 274) i_145_15 o_145 rfl (by decide) (s_273) rfl ?_
    refine k_sipush i_145_18 (by decide) ?_
    refine k_iload_n i_145_21 rfl ?_
    refine k_iadd i_145_22 (by omega) ?_
    refine k_iald i_145_23 (s_274) (by omega) ?_
    refine k_iconst i_145_24 (by decide) ?_
    refine k_icmp_ne (t := 32) i_145_25 rfl (fun h25 => ?_) (fun h25 => ?_)
    · refine k_iconst i_145_32 (by decide) ?_
      refine k_zret i_145_33 rfl (by omega) ?_
      exact k _ (by omega)
    · refine k_iconst i_145_28 (by decide) ?_
      refine k_goto (t := 33) i_145_29 rfl ?_
      refine k_zret i_145_33 rfl (by omega) ?_
      exact k _ (by omega)

set_option maxRecDepth 100000 in
/-- ElbowQueueModel.plainSize -/
theorem c_193 {d : Nat} {M : Mem} {Q : Option Vv → Mem → Prop} {K : Kt} {T : Tt} {x n : Int} (hKo : KOk K 0) (hT : TOk K 0 T) (hq : AskR M K T n) (hv : Va K 0 x) (hn : n + 1 ≤ 16) (k : Q (some (vI (tS T x))) (apL 273 288 21 M [10])) : Ok (d + 1) 193 0 [some (vR (some 273)), some (vI x)] [] M Q := by
  have hvb := va_b hKo hv
  have sb := hT.2.2.2.1 x hv
  have bb : 0 ≤ bel K T x ∧ bel K T x ≤ 3 := by unfold bel; have := hT.2.2.1; split <;> omega
  have mi9 := hT.2.2.1
  have es : M 274 (28 + x) = tS T x := (hq.2.1.2.2.2.2.2.2 x hv).2.2.1
  have ek : M 274 (145 + x) = kKd K x := (hq.1.2.2 x hv).1
  have eN := hq.2.2
  refine k_aload_n i_193_0 rfl ?_
  refine k_bipush i_193_1 (by decide) ?_
  refine k_invV (n := 1) (o' := 8) (av := [vR (some 273), vI 10]) (rest := []) (el := [some (vR (some 273)), some (vI 10)]) i_193_3 o_193 rfl v_192 rfl (s_273) rfl rfl rfl rfl rfl ?_
  refine c_192 (by have := hq.2.2; first | omega | (simp only [List.length_cons, List.length_nil] at this; omega)) ?_
  show Ok _ 193 6 [some (vR (some 273)), some (vI x)] [] (ap 273 288 21 M 10) _
  refine k_aload_n i_193_6 rfl ?_
  refine k_getR (r := 274) i_193_7 o_193 rfl (by decide) (s_273) rfl ?_
  refine k_bipush i_193_10 (by decide) ?_
  refine k_iload_n i_193_12 rfl ?_
  refine k_iadd i_193_13 (by omega) ?_
  refine k_iald i_193_14 (s_274) (by omega) ?_
  rw [ap_ne (by decide) (by decide), es]
  refine k_iret i_193_15 rfl ?_
  exact k

set_option maxRecDepth 100000 in
/-- ElbowQueueModel.firstSize -/
theorem c_194 {d : Nat} {M : Mem} {Q : Option Vv → Mem → Prop} {K : Kt} {T : Tt} {x n : Int} (hKo : KOk K 0) (hT : TOk K 0 T) (hq : AskR M K T n) (hv : Va K 0 x) (hn : n + 2 ≤ 16) (k : Q (some (vI (tS T x - 100))) (apL 273 288 21 M [13, 10])) : Ok (d + 2) 194 0 [some (vR (some 273)), some (vI x)] [] M Q := by
  have hvb := va_b hKo hv
  have sb := hT.2.2.2.1 x hv
  have bb : 0 ≤ bel K T x ∧ bel K T x ≤ 3 := by unfold bel; have := hT.2.2.1; split <;> omega
  have mi9 := hT.2.2.1
  have es : M 274 (28 + x) = tS T x := (hq.2.1.2.2.2.2.2.2 x hv).2.2.1
  have ek : M 274 (145 + x) = kKd K x := (hq.1.2.2 x hv).1
  have eN := hq.2.2
  refine k_aload_n i_194_0 rfl ?_
  refine k_bipush i_194_1 (by decide) ?_
  refine k_invV (n := 1) (o' := 8) (av := [vR (some 273), vI 13]) (rest := []) (el := [some (vR (some 273)), some (vI 13)]) i_194_3 o_194 rfl v_192 rfl (s_273) rfl rfl rfl rfl rfl ?_
  refine c_192 (by have := hq.2.2; first | omega | (simp only [List.length_cons, List.length_nil] at this; omega)) ?_
  show Ok _ 194 6 [some (vR (some 273)), some (vI x)] [] (ap 273 288 21 M 13) _
  refine k_aload_n i_194_6 rfl ?_
  refine k_iload_n i_194_7 rfl ?_
  refine k_invV (n := 1) (o' := 8) (av := [vR (some 273), vI x]) (rest := []) (el := [some (vR (some 273)), some (vI x)]) i_194_8 o_194 rfl v_193 rfl (s_273) rfl rfl rfl rfl rfl ?_
  refine c_193 (d := d + 0) hKo hT (hq.ap 13) hv (by first | omega | (simp only [List.length_cons, List.length_nil]; omega)) ?_
  show Ok _ 194 11 [some (vR (some 273)), some (vI x)] [vI (tS T x)] (apL 273 288 21 (ap 273 288 21 M 13) [10]) _
  refine k_bipush i_194_11 (by decide) ?_
  refine k_isub i_194_13 (by omega) ?_
  refine k_iret i_194_14 rfl ?_
  exact k

set_option maxRecDepth 100000 in
/-- ElbowQueueModel.sizeOfFirst -/
theorem c_195_4 {d : Nat} {M : Mem} {Q : Option Vv → Mem → Prop} {K : Kt} {T : Tt} {x n : Int} (hKo : KOk K 0) (hT : TOk K 0 T) (hq : AskR M K T n) (hv : Va K 0 x) (hk : kKd K x = 4) (hn : n + 2 ≤ 16) (k : Q (some (vI (tS T x - 100))) (apL 273 288 21 M [13, 10])) : Ok (d + 3) 195 0 [some (vR (some 273)), some (vI x)] [] M Q := by
  have hvb := va_b hKo hv
  have sb := hT.2.2.2.1 x hv
  have bb : 0 ≤ bel K T x ∧ bel K T x ≤ 3 := by unfold bel; have := hT.2.2.1; split <;> omega
  have mi9 := hT.2.2.1
  have es : M 274 (28 + x) = tS T x := (hq.2.1.2.2.2.2.2.2 x hv).2.2.1
  have ek : M 274 (145 + x) = kKd K x := (hq.1.2.2 x hv).1
  have eN := hq.2.2
  refine k_aload_n i_195_0 rfl ?_
  refine k_getR (r := 274) i_195_1 o_195 rfl (by decide) (s_273) rfl ?_
  refine k_sipush i_195_4 (by decide) ?_
  refine k_iload_n i_195_7 rfl ?_
  refine k_iadd i_195_8 (by omega) ?_
  refine k_iald i_195_9 (s_274) (by omega) ?_
  rw [ek, hk]
  refine k_iconst i_195_10 (by decide) ?_
  refine k_icmp_ne (t := 28) i_195_11 rfl (fun h11 => ?_) (fun h11 => absurd h11 (by decide))
  refine k_aload_n i_195_28 rfl ?_
  refine k_iload_n i_195_29 rfl ?_
  refine k_invV (n := 1) (o' := 8) (av := [vR (some 273), vI x]) (rest := []) (el := [some (vR (some 273)), some (vI x)]) i_195_30 o_195 rfl v_194 rfl (s_273) rfl rfl rfl rfl rfl ?_
  refine c_194 (d := d + 0) hKo hT hq hv (by first | omega | (simp only [List.length_cons, List.length_nil]; omega)) ?_
  show Ok _ 195 33 [some (vR (some 273)), some (vI x)] [vI (tS T x - 100)] (apL 273 288 21 M [13, 10]) _
  refine k_iret i_195_33 rfl ?_
  exact k

set_option maxRecDepth 100000 in
/-- ElbowQueueModel.sizeOfFirst -/
theorem c_195_5 {d : Nat} {M : Mem} {Q : Option Vv → Mem → Prop} {K : Kt} {T : Tt} {x n : Int} (hKo : KOk K 0) (hT : TOk K 0 T) (hq : AskR M K T n) (hv : Va K 0 x) (hk : kKd K x = 5) (hn : n + 3 ≤ 16) (k : Q (some (vI (2 * (tS T x - 100)))) (apL 273 288 21 M [14, 13, 10])) : Ok (d + 3) 195 0 [some (vR (some 273)), some (vI x)] [] M Q := by
  have hvb := va_b hKo hv
  have sb := hT.2.2.2.1 x hv
  have bb : 0 ≤ bel K T x ∧ bel K T x ≤ 3 := by unfold bel; have := hT.2.2.1; split <;> omega
  have mi9 := hT.2.2.1
  have es : M 274 (28 + x) = tS T x := (hq.2.1.2.2.2.2.2.2 x hv).2.2.1
  have ek : M 274 (145 + x) = kKd K x := (hq.1.2.2 x hv).1
  have eN := hq.2.2
  refine k_aload_n i_195_0 rfl ?_
  refine k_getR (r := 274) i_195_1 o_195 rfl (by decide) (s_273) rfl ?_
  refine k_sipush i_195_4 (by decide) ?_
  refine k_iload_n i_195_7 rfl ?_
  refine k_iadd i_195_8 (by omega) ?_
  refine k_iald i_195_9 (s_274) (by omega) ?_
  rw [ek, hk]
  refine k_iconst i_195_10 (by decide) ?_
  refine k_icmp_ne (t := 28) i_195_11 rfl (fun h11 => absurd h11 (by decide)) (fun h11 => ?_)
  refine k_aload_n i_195_14 rfl ?_
  refine k_bipush i_195_15 (by decide) ?_
  refine k_invV (n := 1) (o' := 8) (av := [vR (some 273), vI 14]) (rest := []) (el := [some (vR (some 273)), some (vI 14)]) i_195_17 o_195 rfl v_192 rfl (s_273) rfl rfl rfl rfl rfl ?_
  refine c_192 (by have := hq.2.2; first | omega | (simp only [List.length_cons, List.length_nil] at this; omega)) ?_
  show Ok _ 195 20 [some (vR (some 273)), some (vI x)] [] (ap 273 288 21 M 14) _
  refine k_iconst i_195_20 (by decide) ?_
  refine k_aload_n i_195_21 rfl ?_
  refine k_iload_n i_195_22 rfl ?_
  refine k_invV (n := 1) (o' := 8) (av := [vR (some 273), vI x]) (rest := [vI 2]) (el := [some (vR (some 273)), some (vI x)]) i_195_23 o_195 rfl v_194 rfl (s_273) rfl rfl rfl rfl rfl ?_
  refine c_194 (d := d + 0) hKo hT (hq.ap 14) hv (by first | omega | (simp only [List.length_cons, List.length_nil]; omega)) ?_
  show Ok _ 195 26 [some (vR (some 273)), some (vI x)] [vI (tS T x - 100), vI 2] (apL 273 288 21 (ap 273 288 21 M 14) [13, 10]) _
  refine k_imul i_195_26 (by omega) ?_
  refine k_iret i_195_27 rfl ?_
  exact k

set_option maxRecDepth 100000 in
/-- ElbowQueueModel.plainMark -/
theorem c_198 {d : Nat} {M : Mem} {Q : Option Vv → Mem → Prop} {K : Kt} {T : Tt} {x n : Int} (hKo : KOk K 0) (hT : TOk K 0 T) (hq : AskR M K T n) (hv : Va K 0 x) (hn : n + 1 ≤ 16) (k : Q (some (vI (x))) (apL 273 288 21 M [20])) : Ok (d + 1) 198 0 [some (vR (some 273)), some (vI x)] [] M Q := by
  have hvb := va_b hKo hv
  have sb := hT.2.2.2.1 x hv
  have bb : 0 ≤ bel K T x ∧ bel K T x ≤ 3 := by unfold bel; have := hT.2.2.1; split <;> omega
  have mi9 := hT.2.2.1
  have es : M 274 (28 + x) = tS T x := (hq.2.1.2.2.2.2.2.2 x hv).2.2.1
  have ek : M 274 (145 + x) = kKd K x := (hq.1.2.2 x hv).1
  have eN := hq.2.2
  refine k_aload_n i_198_0 rfl ?_
  refine k_bipush i_198_1 (by decide) ?_
  refine k_invV (n := 1) (o' := 8) (av := [vR (some 273), vI 20]) (rest := []) (el := [some (vR (some 273)), some (vI 20)]) i_198_3 o_198 rfl v_192 rfl (s_273) rfl rfl rfl rfl rfl ?_
  refine c_192 (by have := hq.2.2; first | omega | (simp only [List.length_cons, List.length_nil] at this; omega)) ?_
  show Ok _ 198 6 [some (vR (some 273)), some (vI x)] [] (ap 273 288 21 M 20) _
  refine k_iload_n i_198_6 rfl ?_
  refine k_iret i_198_7 rfl ?_
  exact k

set_option maxRecDepth 100000 in
/-- ElbowQueueModel.believerMark -/
theorem c_199 {d : Nat} {M : Mem} {Q : Option Vv → Mem → Prop} {K : Kt} {T : Tt} {x n : Int} (hKo : KOk K 0) (hT : TOk K 0 T) (hq : AskR M K T n) (hv : Va K 0 x) (hn : n + 2 ≤ 16) (k : Q (some (vI (x + bel K T x))) (apL 273 288 21 M [21, 20])) : Ok (d + 2) 199 0 [some (vR (some 273)), some (vI x)] [] M Q := by
  have hvb := va_b hKo hv
  have sb := hT.2.2.2.1 x hv
  have bb : 0 ≤ bel K T x ∧ bel K T x ≤ 3 := by unfold bel; have := hT.2.2.1; split <;> omega
  have mi9 := hT.2.2.1
  have es : M 274 (28 + x) = tS T x := (hq.2.1.2.2.2.2.2.2 x hv).2.2.1
  have ek : M 274 (145 + x) = kKd K x := (hq.1.2.2 x hv).1
  have eN := hq.2.2
  refine k_aload_n i_199_0 rfl ?_
  refine k_bipush i_199_1 (by decide) ?_
  refine k_invV (n := 1) (o' := 8) (av := [vR (some 273), vI 21]) (rest := []) (el := [some (vR (some 273)), some (vI 21)]) i_199_3 o_199 rfl v_192 rfl (s_273) rfl rfl rfl rfl rfl ?_
  refine c_192 (by have := hq.2.2; first | omega | (simp only [List.length_cons, List.length_nil] at this; omega)) ?_
  show Ok _ 199 6 [some (vR (some 273)), some (vI x)] [] (ap 273 288 21 M 21) _
  refine k_aload_n i_199_6 rfl ?_
  refine k_iload_n i_199_7 rfl ?_
  refine k_invV (n := 1) (o' := 8) (av := [vR (some 273), vI x]) (rest := []) (el := [some (vR (some 273)), some (vI x)]) i_199_8 o_199 rfl v_198 rfl (s_273) rfl rfl rfl rfl rfl ?_
  refine c_198 (d := d + 0) hKo hT (hq.ap 21) hv (by first | omega | (simp only [List.length_cons, List.length_nil]; omega)) ?_
  show Ok _ 199 11 [some (vR (some 273)), some (vI x)] [vI x] (apL 273 288 21 (ap 273 288 21 M 21) [20]) _
  refine k_aload_n i_199_11 rfl ?_
  refine k_iload_n i_199_12 rfl ?_
  refine k_invV (n := 1) (o' := 8) (av := [vR (some 273), vI x]) (rest := [vI x]) (el := [some (vR (some 273)), some (vI x)]) i_199_13 o_199 rfl v_146 rfl (s_273) rfl rfl rfl rfl rfl ?_
  refine c_146 hKo (AskR.apl [20] (hq.ap 21)).1 (AskR.apl [20] (hq.ap 21)).2.1 hv (fun wd hwd => ?_)
  show Ok _ 199 16 [some (vR (some 273)), some (vI x)] [vI wd, vI x] (apL 273 288 21 (ap 273 288 21 M 21) [20]) _
  rw [show wd = bel K T x from hwd]
  refine k_iadd i_199_16 (by omega) ?_
  refine k_iret i_199_17 rfl ?_
  exact k

set_option maxRecDepth 100000 in
/-- ElbowQueueModel.mark -/
theorem c_200_1 {d : Nat} {M : Mem} {Q : Option Vv → Mem → Prop} {K : Kt} {T : Tt} {x n : Int} (hKo : KOk K 0) (hT : TOk K 0 T) (hq : AskR M K T n) (hv : Va K 0 x) (hk : kKd K x = 1) (hn : n + 2 ≤ 16) (k : Q (some (vI (x + bel K T x))) (apL 273 288 21 M [21, 20])) : Ok (d + 4) 200 0 [some (vR (some 273)), some (vI x), none] [] M Q := by
  have hvb := va_b hKo hv
  have sb := hT.2.2.2.1 x hv
  have bb : 0 ≤ bel K T x ∧ bel K T x ≤ 3 := by unfold bel; have := hT.2.2.1; split <;> omega
  have mi9 := hT.2.2.1
  have es : M 274 (28 + x) = tS T x := (hq.2.1.2.2.2.2.2.2 x hv).2.2.1
  have ek : M 274 (145 + x) = kKd K x := (hq.1.2.2 x hv).1
  have eN := hq.2.2
  refine k_aload_n i_200_0 rfl ?_
  refine k_getR (r := 274) i_200_1 o_200 rfl (by decide) (s_273) rfl ?_
  refine k_sipush i_200_4 (by decide) ?_
  refine k_iload_n i_200_7 rfl ?_
  refine k_iadd i_200_8 (by omega) ?_
  refine k_iald i_200_9 (s_274) (by omega) ?_
  rw [ek, hk]
  refine k_tab (off := 56) (t := 66) i_200_10 rfl rfl ?_
  refine k_aload_n i_200_66 rfl ?_
  refine k_iload_n i_200_67 rfl ?_
  refine k_invV (n := 1) (o' := 8) (av := [vR (some 273), vI x]) (rest := []) (el := [some (vR (some 273)), some (vI x)]) i_200_68 o_200 rfl v_199 rfl (s_273) rfl rfl rfl rfl rfl ?_
  refine c_199 (d := d + 1) hKo hT hq hv (by first | omega | (simp only [List.length_cons, List.length_nil]; omega)) ?_
  show Ok _ 200 71 [some (vR (some 273)), some (vI x), none] [vI (x + bel K T x)] (apL 273 288 21 M [21, 20]) _
  refine k_iret i_200_71 rfl ?_
  exact k

set_option maxRecDepth 100000 in
/-- ElbowQueueModel.mark -/
theorem c_200_2 {d : Nat} {M : Mem} {Q : Option Vv → Mem → Prop} {K : Kt} {T : Tt} {x n : Int} (hKo : KOk K 0) (hT : TOk K 0 T) (hq : AskR M K T n) (hv : Va K 0 x) (hk : kKd K x = 2) (hn : n + 3 ≤ 16) (k : Q (some (vI (2 * (x + bel K T x)))) (apL 273 288 21 M [24, 21, 20])) : Ok (d + 4) 200 0 [some (vR (some 273)), some (vI x), none] [] M Q := by
  have hvb := va_b hKo hv
  have sb := hT.2.2.2.1 x hv
  have bb : 0 ≤ bel K T x ∧ bel K T x ≤ 3 := by unfold bel; have := hT.2.2.1; split <;> omega
  have mi9 := hT.2.2.1
  have es : M 274 (28 + x) = tS T x := (hq.2.1.2.2.2.2.2.2 x hv).2.2.1
  have ek : M 274 (145 + x) = kKd K x := (hq.1.2.2 x hv).1
  have eN := hq.2.2
  refine k_aload_n i_200_0 rfl ?_
  refine k_getR (r := 274) i_200_1 o_200 rfl (by decide) (s_273) rfl ?_
  refine k_sipush i_200_4 (by decide) ?_
  refine k_iload_n i_200_7 rfl ?_
  refine k_iadd i_200_8 (by omega) ?_
  refine k_iald i_200_9 (s_274) (by omega) ?_
  rw [ek, hk]
  refine k_tab (off := 26) (t := 36) i_200_10 rfl rfl ?_
  refine k_aload_n i_200_36 rfl ?_
  refine k_bipush i_200_37 (by decide) ?_
  refine k_invV (n := 1) (o' := 8) (av := [vR (some 273), vI 24]) (rest := []) (el := [some (vR (some 273)), some (vI 24)]) i_200_39 o_200 rfl v_192 rfl (s_273) rfl rfl rfl rfl rfl ?_
  refine c_192 (by have := hq.2.2; first | omega | (simp only [List.length_cons, List.length_nil] at this; omega)) ?_
  show Ok _ 200 42 [some (vR (some 273)), some (vI x), none] [] (ap 273 288 21 M 24) _
  refine k_iconst i_200_42 (by decide) ?_
  refine k_aload_n i_200_43 rfl ?_
  refine k_iload_n i_200_44 rfl ?_
  refine k_invV (n := 1) (o' := 8) (av := [vR (some 273), vI x]) (rest := [vI 2]) (el := [some (vR (some 273)), some (vI x)]) i_200_45 o_200 rfl v_199 rfl (s_273) rfl rfl rfl rfl rfl ?_
  refine c_199 (d := d + 1) hKo hT (hq.ap 24) hv (by first | omega | (simp only [List.length_cons, List.length_nil]; omega)) ?_
  show Ok _ 200 48 [some (vR (some 273)), some (vI x), none] [vI (x + bel K T x), vI 2] (apL 273 288 21 (ap 273 288 21 M 24) [21, 20]) _
  refine k_imul i_200_48 (by omega) ?_
  refine k_iret i_200_49 rfl ?_
  exact k

set_option maxRecDepth 100000 in
/-- ElbowQueueModel.mark -/
theorem c_200_3 {d : Nat} {M : Mem} {Q : Option Vv → Mem → Prop} {K : Kt} {T : Tt} {x n : Int} (hKo : KOk K 0) (hT : TOk K 0 T) (hq : AskR M K T n) (hv : Va K 0 x) (hk : kKd K x = 3) (hn : n + 3 ≤ 16) (k : Q (some (vI (x + bel K T x - 1000))) (apL 273 288 21 M [22, 21, 20])) : Ok (d + 4) 200 0 [some (vR (some 273)), some (vI x), none] [] M Q := by
  have hvb := va_b hKo hv
  have sb := hT.2.2.2.1 x hv
  have bb : 0 ≤ bel K T x ∧ bel K T x ≤ 3 := by unfold bel; have := hT.2.2.1; split <;> omega
  have mi9 := hT.2.2.1
  have es : M 274 (28 + x) = tS T x := (hq.2.1.2.2.2.2.2.2 x hv).2.2.1
  have ek : M 274 (145 + x) = kKd K x := (hq.1.2.2 x hv).1
  have eN := hq.2.2
  refine k_aload_n i_200_0 rfl ?_
  refine k_getR (r := 274) i_200_1 o_200 rfl (by decide) (s_273) rfl ?_
  refine k_sipush i_200_4 (by decide) ?_
  refine k_iload_n i_200_7 rfl ?_
  refine k_iadd i_200_8 (by omega) ?_
  refine k_iald i_200_9 (s_274) (by omega) ?_
  rw [ek, hk]
  refine k_tab (off := 40) (t := 50) i_200_10 rfl rfl ?_
  refine k_aload_n i_200_50 rfl ?_
  refine k_bipush i_200_51 (by decide) ?_
  refine k_invV (n := 1) (o' := 8) (av := [vR (some 273), vI 22]) (rest := []) (el := [some (vR (some 273)), some (vI 22)]) i_200_53 o_200 rfl v_192 rfl (s_273) rfl rfl rfl rfl rfl ?_
  refine c_192 (by have := hq.2.2; first | omega | (simp only [List.length_cons, List.length_nil] at this; omega)) ?_
  show Ok _ 200 56 [some (vR (some 273)), some (vI x), none] [] (ap 273 288 21 M 22) _
  refine k_aload_n i_200_56 rfl ?_
  refine k_iload_n i_200_57 rfl ?_
  refine k_invV (n := 1) (o' := 8) (av := [vR (some 273), vI x]) (rest := []) (el := [some (vR (some 273)), some (vI x)]) i_200_58 o_200 rfl v_199 rfl (s_273) rfl rfl rfl rfl rfl ?_
  refine c_199 (d := d + 1) hKo hT (hq.ap 22) hv (by first | omega | (simp only [List.length_cons, List.length_nil]; omega)) ?_
  show Ok _ 200 61 [some (vR (some 273)), some (vI x), none] [vI (x + bel K T x)] (apL 273 288 21 (ap 273 288 21 M 22) [21, 20]) _
  refine k_sipush i_200_61 (by decide) ?_
  refine k_isub i_200_64 (by omega) ?_
  refine k_iret i_200_65 rfl ?_
  exact k

set_option maxRecDepth 100000 in
/-- ElbowQueueModel.mark -/
theorem c_200_4 {d : Nat} {M : Mem} {Q : Option Vv → Mem → Prop} {K : Kt} {T : Tt} {x n : Int} (hKo : KOk K 0) (hT : TOk K 0 T) (hq : AskR M K T n) (hv : Va K 0 x) (hk : kKd K x = 4) (hn : n + 4 ≤ 16) (k : Q (some (vI (x - (tS T x - 100)))) (apL 273 288 21 M [23, 20, 13, 10])) : Ok (d + 4) 200 0 [some (vR (some 273)), some (vI x), none] [] M Q := by
  have hvb := va_b hKo hv
  have sb := hT.2.2.2.1 x hv
  have bb : 0 ≤ bel K T x ∧ bel K T x ≤ 3 := by unfold bel; have := hT.2.2.1; split <;> omega
  have mi9 := hT.2.2.1
  have es : M 274 (28 + x) = tS T x := (hq.2.1.2.2.2.2.2.2 x hv).2.2.1
  have ek : M 274 (145 + x) = kKd K x := (hq.1.2.2 x hv).1
  have eN := hq.2.2
  refine k_aload_n i_200_0 rfl ?_
  refine k_getR (r := 274) i_200_1 o_200 rfl (by decide) (s_273) rfl ?_
  refine k_sipush i_200_4 (by decide) ?_
  refine k_iload_n i_200_7 rfl ?_
  refine k_iadd i_200_8 (by omega) ?_
  refine k_iald i_200_9 (s_274) (by omega) ?_
  rw [ek, hk]
  refine k_tab (off := 62) (t := 72) i_200_10 rfl rfl ?_
  refine k_aload_n i_200_72 rfl ?_
  refine k_bipush i_200_73 (by decide) ?_
  refine k_invV (n := 1) (o' := 8) (av := [vR (some 273), vI 23]) (rest := []) (el := [some (vR (some 273)), some (vI 23)]) i_200_75 o_200 rfl v_192 rfl (s_273) rfl rfl rfl rfl rfl ?_
  refine c_192 (by have := hq.2.2; first | omega | (simp only [List.length_cons, List.length_nil] at this; omega)) ?_
  show Ok _ 200 78 [some (vR (some 273)), some (vI x), none] [] (ap 273 288 21 M 23) _
  refine k_aload_n i_200_78 rfl ?_
  refine k_iload_n i_200_79 rfl ?_
  refine k_invV (n := 1) (o' := 8) (av := [vR (some 273), vI x]) (rest := []) (el := [some (vR (some 273)), some (vI x)]) i_200_80 o_200 rfl v_198 rfl (s_273) rfl rfl rfl rfl rfl ?_
  refine c_198 (d := d + 2) hKo hT (hq.ap 23) hv (by first | omega | (simp only [List.length_cons, List.length_nil]; omega)) ?_
  show Ok _ 200 83 [some (vR (some 273)), some (vI x), none] [vI x] (apL 273 288 21 (ap 273 288 21 M 23) [20]) _
  refine k_istore_n (ls' := [some (vR (some 273)), some (vI x), some (vI x)]) i_200_83 rfl ?_
  refine k_iload_n i_200_84 rfl ?_
  refine k_aload_n i_200_85 rfl ?_
  refine k_iload_n i_200_86 rfl ?_
  refine k_invV (n := 1) (o' := 8) (av := [vR (some 273), vI x]) (rest := [vI x]) (el := [some (vR (some 273)), some (vI x)]) i_200_87 o_200 rfl v_195 rfl (s_273) rfl rfl rfl rfl rfl ?_
  refine c_195_4 (d := d + 0) hKo hT (AskR.apl [20] (hq.ap 23)) hv hk (by first | omega | (simp only [List.length_cons, List.length_nil]; omega)) ?_
  show Ok _ 200 90 [some (vR (some 273)), some (vI x), some (vI x)] [vI (tS T x - 100), vI x] (apL 273 288 21 (apL 273 288 21 (ap 273 288 21 M 23) [20]) [13, 10]) _
  refine k_isub i_200_90 (by omega) ?_
  refine k_iret i_200_91 rfl ?_
  exact k

set_option maxRecDepth 100000 in
/-- ElbowQueueModel.mark -/
theorem c_200_5 {d : Nat} {M : Mem} {Q : Option Vv → Mem → Prop} {K : Kt} {T : Tt} {x n : Int} (hKo : KOk K 0) (hT : TOk K 0 T) (hq : AskR M K T n) (hv : Va K 0 x) (hk : kKd K x = 5) (hn : n + 5 ≤ 16) (k : Q (some (vI (x - (2 * (tS T x - 100))))) (apL 273 288 21 M [23, 20, 14, 13, 10])) : Ok (d + 4) 200 0 [some (vR (some 273)), some (vI x), none] [] M Q := by
  have hvb := va_b hKo hv
  have sb := hT.2.2.2.1 x hv
  have bb : 0 ≤ bel K T x ∧ bel K T x ≤ 3 := by unfold bel; have := hT.2.2.1; split <;> omega
  have mi9 := hT.2.2.1
  have es : M 274 (28 + x) = tS T x := (hq.2.1.2.2.2.2.2.2 x hv).2.2.1
  have ek : M 274 (145 + x) = kKd K x := (hq.1.2.2 x hv).1
  have eN := hq.2.2
  refine k_aload_n i_200_0 rfl ?_
  refine k_getR (r := 274) i_200_1 o_200 rfl (by decide) (s_273) rfl ?_
  refine k_sipush i_200_4 (by decide) ?_
  refine k_iload_n i_200_7 rfl ?_
  refine k_iadd i_200_8 (by omega) ?_
  refine k_iald i_200_9 (s_274) (by omega) ?_
  rw [ek, hk]
  refine k_tab (off := 62) (t := 72) i_200_10 rfl rfl ?_
  refine k_aload_n i_200_72 rfl ?_
  refine k_bipush i_200_73 (by decide) ?_
  refine k_invV (n := 1) (o' := 8) (av := [vR (some 273), vI 23]) (rest := []) (el := [some (vR (some 273)), some (vI 23)]) i_200_75 o_200 rfl v_192 rfl (s_273) rfl rfl rfl rfl rfl ?_
  refine c_192 (by have := hq.2.2; first | omega | (simp only [List.length_cons, List.length_nil] at this; omega)) ?_
  show Ok _ 200 78 [some (vR (some 273)), some (vI x), none] [] (ap 273 288 21 M 23) _
  refine k_aload_n i_200_78 rfl ?_
  refine k_iload_n i_200_79 rfl ?_
  refine k_invV (n := 1) (o' := 8) (av := [vR (some 273), vI x]) (rest := []) (el := [some (vR (some 273)), some (vI x)]) i_200_80 o_200 rfl v_198 rfl (s_273) rfl rfl rfl rfl rfl ?_
  refine c_198 (d := d + 2) hKo hT (hq.ap 23) hv (by first | omega | (simp only [List.length_cons, List.length_nil]; omega)) ?_
  show Ok _ 200 83 [some (vR (some 273)), some (vI x), none] [vI x] (apL 273 288 21 (ap 273 288 21 M 23) [20]) _
  refine k_istore_n (ls' := [some (vR (some 273)), some (vI x), some (vI x)]) i_200_83 rfl ?_
  refine k_iload_n i_200_84 rfl ?_
  refine k_aload_n i_200_85 rfl ?_
  refine k_iload_n i_200_86 rfl ?_
  refine k_invV (n := 1) (o' := 8) (av := [vR (some 273), vI x]) (rest := [vI x]) (el := [some (vR (some 273)), some (vI x)]) i_200_87 o_200 rfl v_195 rfl (s_273) rfl rfl rfl rfl rfl ?_
  refine c_195_5 (d := d + 0) hKo hT (AskR.apl [20] (hq.ap 23)) hv hk (by first | omega | (simp only [List.length_cons, List.length_nil]; omega)) ?_
  show Ok _ 200 90 [some (vR (some 273)), some (vI x), some (vI x)] [vI (2 * (tS T x - 100)), vI x] (apL 273 288 21 (apL 273 288 21 (ap 273 288 21 M 23) [20]) [14, 13, 10]) _
  refine k_isub i_200_90 (by omega) ?_
  refine k_iret i_200_91 rfl ?_
  exact k

set_option maxRecDepth 100000 in
/-- ElbowQueueModel.believerSize -/
theorem c_196_1 {d : Nat} {M : Mem} {Q : Option Vv → Mem → Prop} {K : Kt} {T : Tt} {x n : Int} (hKo : KOk K 0) (hT : TOk K 0 T) (hq : AskR M K T n) (hv : Va K 0 x) (hk : kKd K x = 1) (hn : n + 4 ≤ 16) (k : Q (some (vI (tS T x + (x + bel K T x)))) (apL 273 288 21 M [11, 10, 21, 20])) : Ok (d + 5) 196 0 [some (vR (some 273)), some (vI x), none] [] M Q := by
  have hvb := va_b hKo hv
  have sb := hT.2.2.2.1 x hv
  have bb : 0 ≤ bel K T x ∧ bel K T x ≤ 3 := by unfold bel; have := hT.2.2.1; split <;> omega
  have mi9 := hT.2.2.1
  have es : M 274 (28 + x) = tS T x := (hq.2.1.2.2.2.2.2.2 x hv).2.2.1
  have ek : M 274 (145 + x) = kKd K x := (hq.1.2.2 x hv).1
  have eN := hq.2.2
  refine k_aload_n i_196_0 rfl ?_
  refine k_bipush i_196_1 (by decide) ?_
  refine k_invV (n := 1) (o' := 8) (av := [vR (some 273), vI 11]) (rest := []) (el := [some (vR (some 273)), some (vI 11)]) i_196_3 o_196 rfl v_192 rfl (s_273) rfl rfl rfl rfl rfl ?_
  refine c_192 (by have := hq.2.2; first | omega | (simp only [List.length_cons, List.length_nil] at this; omega)) ?_
  show Ok _ 196 6 [some (vR (some 273)), some (vI x), none] [] (ap 273 288 21 M 11) _
  refine k_aload_n i_196_6 rfl ?_
  refine k_iload_n i_196_7 rfl ?_
  refine k_invV (n := 1) (o' := 8) (av := [vR (some 273), vI x]) (rest := []) (el := [some (vR (some 273)), some (vI x)]) i_196_8 o_196 rfl v_193 rfl (s_273) rfl rfl rfl rfl rfl ?_
  refine c_193 (d := d + 3) hKo hT (hq.ap 11) hv (by first | omega | (simp only [List.length_cons, List.length_nil]; omega)) ?_
  show Ok _ 196 11 [some (vR (some 273)), some (vI x), none] [vI (tS T x)] (apL 273 288 21 (ap 273 288 21 M 11) [10]) _
  refine k_istore_n (ls' := [some (vR (some 273)), some (vI x), some (vI (tS T x))]) i_196_11 rfl ?_
  refine k_iload_n i_196_12 rfl ?_
  refine k_aload_n i_196_13 rfl ?_
  refine k_iload_n i_196_14 rfl ?_
  refine k_invV (n := 1) (o' := 8) (av := [vR (some 273), vI x]) (rest := [vI (tS T x)]) (el := [some (vR (some 273)), some (vI x), none]) i_196_15 o_196 rfl v_200 rfl (s_273) rfl rfl rfl rfl rfl ?_
  refine c_200_1 (d := d + 0) hKo hT (AskR.apl [10] (hq.ap 11)) hv hk (by first | omega | (simp only [List.length_cons, List.length_nil]; omega)) ?_
  show Ok _ 196 18 [some (vR (some 273)), some (vI x), some (vI (tS T x))] [vI (x + bel K T x), vI (tS T x)] (apL 273 288 21 (apL 273 288 21 (ap 273 288 21 M 11) [10]) [21, 20]) _
  refine k_iadd i_196_18 (by omega) ?_
  refine k_iret i_196_19 rfl ?_
  exact k

set_option maxRecDepth 100000 in
/-- ElbowQueueModel.believerSize -/
theorem c_196_2 {d : Nat} {M : Mem} {Q : Option Vv → Mem → Prop} {K : Kt} {T : Tt} {x n : Int} (hKo : KOk K 0) (hT : TOk K 0 T) (hq : AskR M K T n) (hv : Va K 0 x) (hk : kKd K x = 2) (hn : n + 5 ≤ 16) (k : Q (some (vI (tS T x + (2 * (x + bel K T x))))) (apL 273 288 21 M [11, 10, 24, 21, 20])) : Ok (d + 5) 196 0 [some (vR (some 273)), some (vI x), none] [] M Q := by
  have hvb := va_b hKo hv
  have sb := hT.2.2.2.1 x hv
  have bb : 0 ≤ bel K T x ∧ bel K T x ≤ 3 := by unfold bel; have := hT.2.2.1; split <;> omega
  have mi9 := hT.2.2.1
  have es : M 274 (28 + x) = tS T x := (hq.2.1.2.2.2.2.2.2 x hv).2.2.1
  have ek : M 274 (145 + x) = kKd K x := (hq.1.2.2 x hv).1
  have eN := hq.2.2
  refine k_aload_n i_196_0 rfl ?_
  refine k_bipush i_196_1 (by decide) ?_
  refine k_invV (n := 1) (o' := 8) (av := [vR (some 273), vI 11]) (rest := []) (el := [some (vR (some 273)), some (vI 11)]) i_196_3 o_196 rfl v_192 rfl (s_273) rfl rfl rfl rfl rfl ?_
  refine c_192 (by have := hq.2.2; first | omega | (simp only [List.length_cons, List.length_nil] at this; omega)) ?_
  show Ok _ 196 6 [some (vR (some 273)), some (vI x), none] [] (ap 273 288 21 M 11) _
  refine k_aload_n i_196_6 rfl ?_
  refine k_iload_n i_196_7 rfl ?_
  refine k_invV (n := 1) (o' := 8) (av := [vR (some 273), vI x]) (rest := []) (el := [some (vR (some 273)), some (vI x)]) i_196_8 o_196 rfl v_193 rfl (s_273) rfl rfl rfl rfl rfl ?_
  refine c_193 (d := d + 3) hKo hT (hq.ap 11) hv (by first | omega | (simp only [List.length_cons, List.length_nil]; omega)) ?_
  show Ok _ 196 11 [some (vR (some 273)), some (vI x), none] [vI (tS T x)] (apL 273 288 21 (ap 273 288 21 M 11) [10]) _
  refine k_istore_n (ls' := [some (vR (some 273)), some (vI x), some (vI (tS T x))]) i_196_11 rfl ?_
  refine k_iload_n i_196_12 rfl ?_
  refine k_aload_n i_196_13 rfl ?_
  refine k_iload_n i_196_14 rfl ?_
  refine k_invV (n := 1) (o' := 8) (av := [vR (some 273), vI x]) (rest := [vI (tS T x)]) (el := [some (vR (some 273)), some (vI x), none]) i_196_15 o_196 rfl v_200 rfl (s_273) rfl rfl rfl rfl rfl ?_
  refine c_200_2 (d := d + 0) hKo hT (AskR.apl [10] (hq.ap 11)) hv hk (by first | omega | (simp only [List.length_cons, List.length_nil]; omega)) ?_
  show Ok _ 196 18 [some (vR (some 273)), some (vI x), some (vI (tS T x))] [vI (2 * (x + bel K T x)), vI (tS T x)] (apL 273 288 21 (apL 273 288 21 (ap 273 288 21 M 11) [10]) [24, 21, 20]) _
  refine k_iadd i_196_18 (by omega) ?_
  refine k_iret i_196_19 rfl ?_
  exact k

set_option maxRecDepth 100000 in
/-- ElbowQueueModel.believerSize -/
theorem c_196_3 {d : Nat} {M : Mem} {Q : Option Vv → Mem → Prop} {K : Kt} {T : Tt} {x n : Int} (hKo : KOk K 0) (hT : TOk K 0 T) (hq : AskR M K T n) (hv : Va K 0 x) (hk : kKd K x = 3) (hn : n + 5 ≤ 16) (k : Q (some (vI (tS T x + (x + bel K T x - 1000)))) (apL 273 288 21 M [11, 10, 22, 21, 20])) : Ok (d + 5) 196 0 [some (vR (some 273)), some (vI x), none] [] M Q := by
  have hvb := va_b hKo hv
  have sb := hT.2.2.2.1 x hv
  have bb : 0 ≤ bel K T x ∧ bel K T x ≤ 3 := by unfold bel; have := hT.2.2.1; split <;> omega
  have mi9 := hT.2.2.1
  have es : M 274 (28 + x) = tS T x := (hq.2.1.2.2.2.2.2.2 x hv).2.2.1
  have ek : M 274 (145 + x) = kKd K x := (hq.1.2.2 x hv).1
  have eN := hq.2.2
  refine k_aload_n i_196_0 rfl ?_
  refine k_bipush i_196_1 (by decide) ?_
  refine k_invV (n := 1) (o' := 8) (av := [vR (some 273), vI 11]) (rest := []) (el := [some (vR (some 273)), some (vI 11)]) i_196_3 o_196 rfl v_192 rfl (s_273) rfl rfl rfl rfl rfl ?_
  refine c_192 (by have := hq.2.2; first | omega | (simp only [List.length_cons, List.length_nil] at this; omega)) ?_
  show Ok _ 196 6 [some (vR (some 273)), some (vI x), none] [] (ap 273 288 21 M 11) _
  refine k_aload_n i_196_6 rfl ?_
  refine k_iload_n i_196_7 rfl ?_
  refine k_invV (n := 1) (o' := 8) (av := [vR (some 273), vI x]) (rest := []) (el := [some (vR (some 273)), some (vI x)]) i_196_8 o_196 rfl v_193 rfl (s_273) rfl rfl rfl rfl rfl ?_
  refine c_193 (d := d + 3) hKo hT (hq.ap 11) hv (by first | omega | (simp only [List.length_cons, List.length_nil]; omega)) ?_
  show Ok _ 196 11 [some (vR (some 273)), some (vI x), none] [vI (tS T x)] (apL 273 288 21 (ap 273 288 21 M 11) [10]) _
  refine k_istore_n (ls' := [some (vR (some 273)), some (vI x), some (vI (tS T x))]) i_196_11 rfl ?_
  refine k_iload_n i_196_12 rfl ?_
  refine k_aload_n i_196_13 rfl ?_
  refine k_iload_n i_196_14 rfl ?_
  refine k_invV (n := 1) (o' := 8) (av := [vR (some 273), vI x]) (rest := [vI (tS T x)]) (el := [some (vR (some 273)), some (vI x), none]) i_196_15 o_196 rfl v_200 rfl (s_273) rfl rfl rfl rfl rfl ?_
  refine c_200_3 (d := d + 0) hKo hT (AskR.apl [10] (hq.ap 11)) hv hk (by first | omega | (simp only [List.length_cons, List.length_nil]; omega)) ?_
  show Ok _ 196 18 [some (vR (some 273)), some (vI x), some (vI (tS T x))] [vI (x + bel K T x - 1000), vI (tS T x)] (apL 273 288 21 (apL 273 288 21 (ap 273 288 21 M 11) [10]) [22, 21, 20]) _
  refine k_iadd i_196_18 (by omega) ?_
  refine k_iret i_196_19 rfl ?_
  exact k

set_option maxRecDepth 100000 in
/-- ElbowQueueModel.size -/
theorem c_197_1 {d : Nat} {M : Mem} {Q : Option Vv → Mem → Prop} {K : Kt} {T : Tt} {x n : Int} (hKo : KOk K 0) (hT : TOk K 0 T) (hq : AskR M K T n) (hv : Va K 0 x) (hk : kKd K x = 1) (hn : n + 4 ≤ 16) (k : Q (some (vI (tS T x + (x + bel K T x)))) (apL 273 288 21 M [11, 10, 21, 20])) : Ok (d + 6) 197 0 [some (vR (some 273)), some (vI x)] [] M Q := by
  have hvb := va_b hKo hv
  have sb := hT.2.2.2.1 x hv
  have bb : 0 ≤ bel K T x ∧ bel K T x ≤ 3 := by unfold bel; have := hT.2.2.1; split <;> omega
  have mi9 := hT.2.2.1
  have es : M 274 (28 + x) = tS T x := (hq.2.1.2.2.2.2.2.2 x hv).2.2.1
  have ek : M 274 (145 + x) = kKd K x := (hq.1.2.2 x hv).1
  have eN := hq.2.2
  refine k_aload_n i_197_0 rfl ?_
  refine k_iload_n i_197_1 rfl ?_
  refine k_invV (n := 1) (o' := 8) (av := [vR (some 273), vI x]) (rest := []) (el := [some (vR (some 273)), some (vI x)]) i_197_2 o_197 rfl v_145 rfl (s_273) rfl rfl rfl rfl rfl ?_
  refine c_145 hKo hq.1 hq.2.1 hv (fun v1 hv1 => ?_)
  show Ok _ 197 5 [some (vR (some 273)), some (vI x)] [vI v1] (M) _
  refine k_if_eq (t := 14) i_197_5 rfl (fun h5 => ?_) (fun h5 => absurd h5 (by omega))
  refine k_aload_n i_197_14 rfl ?_
  refine k_getR (r := 274) i_197_15 o_197 rfl (by decide) (s_273) rfl ?_
  refine k_sipush i_197_18 (by decide) ?_
  refine k_iload_n i_197_21 rfl ?_
  refine k_iadd i_197_22 (by omega) ?_
  refine k_iald i_197_23 (s_274) (by omega) ?_
  rw [ek, hk]
  refine k_iconst i_197_24 (by decide) ?_
  refine k_icmp_ne (t := 41) i_197_25 rfl (fun h25 => ?_) (fun h25 => absurd h25 (by decide))
  refine k_aload_n i_197_41 rfl ?_
  refine k_iload_n i_197_42 rfl ?_
  refine k_invV (n := 1) (o' := 8) (av := [vR (some 273), vI x]) (rest := []) (el := [some (vR (some 273)), some (vI x), none]) i_197_43 o_197 rfl v_196 rfl (s_273) rfl rfl rfl rfl rfl ?_
  refine c_196_1 (d := d + 0) hKo hT hq hv hk (by first | omega | (simp only [List.length_cons, List.length_nil]; omega)) ?_
  show Ok _ 197 46 [some (vR (some 273)), some (vI x)] [vI (tS T x + (x + bel K T x))] (apL 273 288 21 M [11, 10, 21, 20]) _
  refine k_iret i_197_46 rfl ?_
  exact k

set_option maxRecDepth 100000 in
/-- ElbowQueueModel.size -/
theorem c_197_2 {d : Nat} {M : Mem} {Q : Option Vv → Mem → Prop} {K : Kt} {T : Tt} {x n : Int} (hKo : KOk K 0) (hT : TOk K 0 T) (hq : AskR M K T n) (hv : Va K 0 x) (hk : kKd K x = 2) (hn : n + 6 ≤ 16) (k : Q (some (vI (-(tS T x + (2 * (x + bel K T x)))))) (apL 273 288 21 M [12, 11, 10, 24, 21, 20])) : Ok (d + 6) 197 0 [some (vR (some 273)), some (vI x)] [] M Q := by
  have hvb := va_b hKo hv
  have sb := hT.2.2.2.1 x hv
  have bb : 0 ≤ bel K T x ∧ bel K T x ≤ 3 := by unfold bel; have := hT.2.2.1; split <;> omega
  have mi9 := hT.2.2.1
  have es : M 274 (28 + x) = tS T x := (hq.2.1.2.2.2.2.2.2 x hv).2.2.1
  have ek : M 274 (145 + x) = kKd K x := (hq.1.2.2 x hv).1
  have eN := hq.2.2
  refine k_aload_n i_197_0 rfl ?_
  refine k_iload_n i_197_1 rfl ?_
  refine k_invV (n := 1) (o' := 8) (av := [vR (some 273), vI x]) (rest := []) (el := [some (vR (some 273)), some (vI x)]) i_197_2 o_197 rfl v_145 rfl (s_273) rfl rfl rfl rfl rfl ?_
  refine c_145 hKo hq.1 hq.2.1 hv (fun v1 hv1 => ?_)
  show Ok _ 197 5 [some (vR (some 273)), some (vI x)] [vI v1] (M) _
  refine k_if_eq (t := 14) i_197_5 rfl (fun h5 => ?_) (fun h5 => absurd h5 (by omega))
  refine k_aload_n i_197_14 rfl ?_
  refine k_getR (r := 274) i_197_15 o_197 rfl (by decide) (s_273) rfl ?_
  refine k_sipush i_197_18 (by decide) ?_
  refine k_iload_n i_197_21 rfl ?_
  refine k_iadd i_197_22 (by omega) ?_
  refine k_iald i_197_23 (s_274) (by omega) ?_
  rw [ek, hk]
  refine k_iconst i_197_24 (by decide) ?_
  refine k_icmp_ne (t := 41) i_197_25 rfl (fun h25 => absurd h25 (by decide)) (fun h25 => ?_)
  refine k_aload_n i_197_28 rfl ?_
  refine k_bipush i_197_29 (by decide) ?_
  refine k_invV (n := 1) (o' := 8) (av := [vR (some 273), vI 12]) (rest := []) (el := [some (vR (some 273)), some (vI 12)]) i_197_31 o_197 rfl v_192 rfl (s_273) rfl rfl rfl rfl rfl ?_
  refine c_192 (by have := hq.2.2; first | omega | (simp only [List.length_cons, List.length_nil] at this; omega)) ?_
  show Ok _ 197 34 [some (vR (some 273)), some (vI x)] [] (ap 273 288 21 M 12) _
  refine k_aload_n i_197_34 rfl ?_
  refine k_iload_n i_197_35 rfl ?_
  refine k_invV (n := 1) (o' := 8) (av := [vR (some 273), vI x]) (rest := []) (el := [some (vR (some 273)), some (vI x), none]) i_197_36 o_197 rfl v_196 rfl (s_273) rfl rfl rfl rfl rfl ?_
  refine c_196_2 (d := d + 0) hKo hT (hq.ap 12) hv hk (by first | omega | (simp only [List.length_cons, List.length_nil]; omega)) ?_
  show Ok _ 197 39 [some (vR (some 273)), some (vI x)] [vI (tS T x + (2 * (x + bel K T x)))] (apL 273 288 21 (ap 273 288 21 M 12) [11, 10, 24, 21, 20]) _
  refine k_ineg i_197_39 (by omega) ?_
  refine k_iret i_197_40 rfl ?_
  exact k

set_option maxRecDepth 100000 in
/-- ElbowQueueModel.size -/
theorem c_197_3 {d : Nat} {M : Mem} {Q : Option Vv → Mem → Prop} {K : Kt} {T : Tt} {x n : Int} (hKo : KOk K 0) (hT : TOk K 0 T) (hq : AskR M K T n) (hv : Va K 0 x) (hk : kKd K x = 3) (hn : n + 5 ≤ 16) (k : Q (some (vI (tS T x + (x + bel K T x - 1000)))) (apL 273 288 21 M [11, 10, 22, 21, 20])) : Ok (d + 6) 197 0 [some (vR (some 273)), some (vI x)] [] M Q := by
  have hvb := va_b hKo hv
  have sb := hT.2.2.2.1 x hv
  have bb : 0 ≤ bel K T x ∧ bel K T x ≤ 3 := by unfold bel; have := hT.2.2.1; split <;> omega
  have mi9 := hT.2.2.1
  have es : M 274 (28 + x) = tS T x := (hq.2.1.2.2.2.2.2.2 x hv).2.2.1
  have ek : M 274 (145 + x) = kKd K x := (hq.1.2.2 x hv).1
  have eN := hq.2.2
  refine k_aload_n i_197_0 rfl ?_
  refine k_iload_n i_197_1 rfl ?_
  refine k_invV (n := 1) (o' := 8) (av := [vR (some 273), vI x]) (rest := []) (el := [some (vR (some 273)), some (vI x)]) i_197_2 o_197 rfl v_145 rfl (s_273) rfl rfl rfl rfl rfl ?_
  refine c_145 hKo hq.1 hq.2.1 hv (fun v1 hv1 => ?_)
  show Ok _ 197 5 [some (vR (some 273)), some (vI x)] [vI v1] (M) _
  refine k_if_eq (t := 14) i_197_5 rfl (fun h5 => ?_) (fun h5 => absurd h5 (by omega))
  refine k_aload_n i_197_14 rfl ?_
  refine k_getR (r := 274) i_197_15 o_197 rfl (by decide) (s_273) rfl ?_
  refine k_sipush i_197_18 (by decide) ?_
  refine k_iload_n i_197_21 rfl ?_
  refine k_iadd i_197_22 (by omega) ?_
  refine k_iald i_197_23 (s_274) (by omega) ?_
  rw [ek, hk]
  refine k_iconst i_197_24 (by decide) ?_
  refine k_icmp_ne (t := 41) i_197_25 rfl (fun h25 => ?_) (fun h25 => absurd h25 (by decide))
  refine k_aload_n i_197_41 rfl ?_
  refine k_iload_n i_197_42 rfl ?_
  refine k_invV (n := 1) (o' := 8) (av := [vR (some 273), vI x]) (rest := []) (el := [some (vR (some 273)), some (vI x), none]) i_197_43 o_197 rfl v_196 rfl (s_273) rfl rfl rfl rfl rfl ?_
  refine c_196_3 (d := d + 0) hKo hT hq hv hk (by first | omega | (simp only [List.length_cons, List.length_nil]; omega)) ?_
  show Ok _ 197 46 [some (vR (some 273)), some (vI x)] [vI (tS T x + (x + bel K T x - 1000))] (apL 273 288 21 M [11, 10, 22, 21, 20]) _
  refine k_iret i_197_46 rfl ?_
  exact k

set_option maxRecDepth 100000 in
/-- ElbowQueueModel.size -/
theorem c_197_4 {d : Nat} {M : Mem} {Q : Option Vv → Mem → Prop} {K : Kt} {T : Tt} {x n : Int} (hKo : KOk K 0) (hT : TOk K 0 T) (hq : AskR M K T n) (hv : Va K 0 x) (hk : kKd K x = 4) (hn : n + 2 ≤ 16) (k : Q (some (vI (tS T x - 100))) (apL 273 288 21 M [13, 10])) : Ok (d + 6) 197 0 [some (vR (some 273)), some (vI x)] [] M Q := by
  have hvb := va_b hKo hv
  have sb := hT.2.2.2.1 x hv
  have bb : 0 ≤ bel K T x ∧ bel K T x ≤ 3 := by unfold bel; have := hT.2.2.1; split <;> omega
  have mi9 := hT.2.2.1
  have es : M 274 (28 + x) = tS T x := (hq.2.1.2.2.2.2.2.2 x hv).2.2.1
  have ek : M 274 (145 + x) = kKd K x := (hq.1.2.2 x hv).1
  have eN := hq.2.2
  refine k_aload_n i_197_0 rfl ?_
  refine k_iload_n i_197_1 rfl ?_
  refine k_invV (n := 1) (o' := 8) (av := [vR (some 273), vI x]) (rest := []) (el := [some (vR (some 273)), some (vI x)]) i_197_2 o_197 rfl v_145 rfl (s_273) rfl rfl rfl rfl rfl ?_
  refine c_145 hKo hq.1 hq.2.1 hv (fun v1 hv1 => ?_)
  show Ok _ 197 5 [some (vR (some 273)), some (vI x)] [vI v1] (M) _
  refine k_if_eq (t := 14) i_197_5 rfl (fun h5 => absurd h5 (by omega)) (fun h5 => ?_)
  refine k_aload_n i_197_8 rfl ?_
  refine k_iload_n i_197_9 rfl ?_
  refine k_invV (n := 1) (o' := 8) (av := [vR (some 273), vI x]) (rest := []) (el := [some (vR (some 273)), some (vI x)]) i_197_10 o_197 rfl v_195 rfl (s_273) rfl rfl rfl rfl rfl ?_
  refine c_195_4 (d := d + 2) hKo hT hq hv hk (by first | omega | (simp only [List.length_cons, List.length_nil]; omega)) ?_
  show Ok _ 197 13 [some (vR (some 273)), some (vI x)] [vI (tS T x - 100)] (apL 273 288 21 M [13, 10]) _
  refine k_iret i_197_13 rfl ?_
  exact k

set_option maxRecDepth 100000 in
/-- ElbowQueueModel.size -/
theorem c_197_5 {d : Nat} {M : Mem} {Q : Option Vv → Mem → Prop} {K : Kt} {T : Tt} {x n : Int} (hKo : KOk K 0) (hT : TOk K 0 T) (hq : AskR M K T n) (hv : Va K 0 x) (hk : kKd K x = 5) (hn : n + 3 ≤ 16) (k : Q (some (vI (2 * (tS T x - 100)))) (apL 273 288 21 M [14, 13, 10])) : Ok (d + 6) 197 0 [some (vR (some 273)), some (vI x)] [] M Q := by
  have hvb := va_b hKo hv
  have sb := hT.2.2.2.1 x hv
  have bb : 0 ≤ bel K T x ∧ bel K T x ≤ 3 := by unfold bel; have := hT.2.2.1; split <;> omega
  have mi9 := hT.2.2.1
  have es : M 274 (28 + x) = tS T x := (hq.2.1.2.2.2.2.2.2 x hv).2.2.1
  have ek : M 274 (145 + x) = kKd K x := (hq.1.2.2 x hv).1
  have eN := hq.2.2
  refine k_aload_n i_197_0 rfl ?_
  refine k_iload_n i_197_1 rfl ?_
  refine k_invV (n := 1) (o' := 8) (av := [vR (some 273), vI x]) (rest := []) (el := [some (vR (some 273)), some (vI x)]) i_197_2 o_197 rfl v_145 rfl (s_273) rfl rfl rfl rfl rfl ?_
  refine c_145 hKo hq.1 hq.2.1 hv (fun v1 hv1 => ?_)
  show Ok _ 197 5 [some (vR (some 273)), some (vI x)] [vI v1] (M) _
  refine k_if_eq (t := 14) i_197_5 rfl (fun h5 => absurd h5 (by omega)) (fun h5 => ?_)
  refine k_aload_n i_197_8 rfl ?_
  refine k_iload_n i_197_9 rfl ?_
  refine k_invV (n := 1) (o' := 8) (av := [vR (some 273), vI x]) (rest := []) (el := [some (vR (some 273)), some (vI x)]) i_197_10 o_197 rfl v_195 rfl (s_273) rfl rfl rfl rfl rfl ?_
  refine c_195_5 (d := d + 2) hKo hT hq hv hk (by first | omega | (simp only [List.length_cons, List.length_nil]; omega)) ?_
  show Ok _ 197 13 [some (vR (some 273)), some (vI x)] [vI (2 * (tS T x - 100))] (apL 273 288 21 M [14, 13, 10]) _
  refine k_iret i_197_13 rfl ?_
  exact k
