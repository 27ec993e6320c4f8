/-! THE TOWN, as a mathematical value -/
/-- kinds, patience, need, people, waiters -/
abbrev Kt : Type := (Int → Int) × (Int → Int) × (Int → Int) × Int × Int
/-- queue, where, stood, belief, origin, minute, cause, serves, next -/
abbrev Tt : Type := List Int × (Int → Int) × (Int → Int) × (Int → Int) × (Int → Int) × Int × Int × Int × Int
def kKd (K : Kt) : Int → Int := K.1
def kPa (K : Kt) : Int → Int := K.2.1
def kNe (K : Kt) : Int → Int := K.2.2.1
def kPe (K : Kt) : Int := K.2.2.2.1
def kWt (K : Kt) : Int := K.2.2.2.2
def tQ (T : Tt) : List Int := T.1
def tW (T : Tt) : Int → Int := T.2.1
def tS (T : Tt) : Int → Int := T.2.2.1
def tB (T : Tt) : Int → Int := T.2.2.2.1
def tO (T : Tt) : Int → Int := T.2.2.2.2.1
def tMi (T : Tt) : Int := T.2.2.2.2.2.1
def tCa (T : Tt) : Int := T.2.2.2.2.2.2.1
def tSe (T : Tt) : Int := T.2.2.2.2.2.2.2.1
def tNx (T : Tt) : Int := T.2.2.2.2.2.2.2.2
def mkT (q : List Int) (w s b o : Int → Int) (mi ca se nx : Int) : Tt := (q, w, s, b, o, mi, ca, se, nx)
section MKT
variable (q : List Int) (w s b o : Int → Int) (mi ca se nx : Int)
theorem mk_q : tQ (mkT q w s b o mi ca se nx) = q := rfl
theorem mk_w : tW (mkT q w s b o mi ca se nx) = w := rfl
theorem mk_s : tS (mkT q w s b o mi ca se nx) = s := rfl
theorem mk_b : tB (mkT q w s b o mi ca se nx) = b := rfl
theorem mk_o : tO (mkT q w s b o mi ca se nx) = o := rfl
theorem mk_mi : tMi (mkT q w s b o mi ca se nx) = mi := rfl
theorem mk_ca : tCa (mkT q w s b o mi ca se nx) = ca := rfl
theorem mk_se : tSe (mkT q w s b o mi ca se nx) = se := rfl
theorem mk_nx : tNx (mkT q w s b o mi ca se nx) = nx := rfl
end MKT
def up (f : Int → Int) (k v : Int) : Int → Int := fun j => if j = k then v else f j
theorem up_s (f : Int → Int) (k v : Int) : up f k v k = v := if_pos rfl
theorem up_n (f : Int → Int) {k j : Int} (v : Int) (h : j ≠ k) : up f k v j = f j := if_neg h
/-- who is of the town: people, and m elbows -/
def Va (K : Kt) (m p : Int) : Prop := (0 ≤ p ∧ p < kPe K) ∨ (16 ≤ p ∧ p < 16 + m)
/-- what is told of people keeps its bounds -/
def KOk (K : Kt) (m : Int) : Prop := (0 ≤ kPe K ∧ kPe K ≤ 16 ∧ 0 ≤ kWt K ∧ kWt K ≤ 8 ∧ kWt K ≤ kPe K ∧ kPe K - kWt K ≤ 8 ∧ 0 ≤ m ∧ m ≤ 12) ∧ ∀ p, Va K m p → (1 ≤ kKd K p ∧ kKd K p ≤ 5 ∧ 0 ≤ kPa K p ∧ kPa K p ≤ 99)
def TOk (K : Kt) (m : Int) (T : Tt) : Prop :=
  (tQ T).Nodup ∧ (∀ p ∈ tQ T, (0 ≤ p ∧ p < tNx T) ∨ (16 ≤ p ∧ p < 16 + m)) ∧ (0 ≤ tNx T ∧ tNx T ≤ kPe K ∧ ((tQ T).length : Int) ≤ tNx T + m ∧ 0 ≤ tMi T ∧ tMi T ≤ 100000 ∧ 0 ≤ tCa T ∧ tCa T ≤ 3 ∧ 0 ≤ tSe T ∧ tSe T ≤ 9) ∧
  (∀ p, Va K m p → (0 ≤ tS T p ∧ tS T p ≤ tMi T ∧ 0 ≤ tB T p ∧ tB T p ≤ 3)) ∧
  (∀ p, Va K m p → (tW T p = 1 ↔ p ∈ tQ T)) ∧ (∀ p, tNx T ≤ p → p < kPe K → tW T p = 0) ∧ (∀ p, 0 ≤ p → p < tNx T → p ∉ tQ T → 2 ≤ tW T p ∧ tW T p ≤ 4)
theorem TOk.va {K : Kt} {m : Int} {T : Tt} (h : TOk K m T) {p : Int} (hp : p ∈ tQ T) : Va K m p := by
  have h1 := h.2.1 p hp
  have h2 := h.2.2.1.2.1
  unfold Va
  omega
/-! a minute -/
def bel (K : Kt) (T : Tt) (p : Int) : Int := if kKd K p = 4 then tCa T else tB T p
abbrev takes (K : Kt) (T : Tt) (p : Int) : Prop := kKd K p = 2 ∨ ((kKd K p = 1 ∨ kKd K p = 3) ∧ tB T p = 0)
/-- who stands ahead of p -/
def fore (T : Tt) (p : Int) : Int := (tQ T).getD ((tQ T).idxOf p - 1) 0
/-- is told something, by his place, from lo on, below hi -/
abbrev hrs (K : Kt) (T : Tt) (lo hi : Nat) (p : Int) : Prop := lo ≤ (tQ T).idxOf p ∧ (tQ T).idxOf p < hi ∧ ¬ bel K T (fore T p) = 0 ∧ takes K T p
def tellB (K : Kt) (T : Tt) (lo hi : Nat) (p : Int) : Int := if hrs K T lo hi p then bel K T (fore T p) else tB T p
def tellO (K : Kt) (T : Tt) (lo hi : Nat) (p : Int) : Int := if hrs K T lo hi p then tO T (fore T p) else tO T p
def tellP (K : Kt) (T : Tt) (lo hi : Nat) : Tt := mkT (tQ T) (tW T) (tS T) (tellB K T lo hi) (tellO K T lo hi) (tMi T) (tCa T) (tSe T) (tNx T)
def tellF (K : Kt) (T : Tt) : Tt := tellP K T 1 (tQ T).length
def tickF (T : Tt) : Tt := mkT (tQ T) (tW T) (tS T) (tB T) (tO T) (tMi T + 1) (tCa T) (tSe T) (tNx T)
/-- who is at place k goes, w is where -/
def outF (T : Tt) (k : Nat) (w : Int) : Tt := mkT ((tQ T).eraseIdx k) (up (tW T) ((tQ T).getD k 0) w) (tS T) (tB T) (tO T) (tMi T) (tCa T) (tSe T) (tNx T)
def servF (T : Tt) : Tt := if ¬ tSe T = 0 ∧ (tMi T).tmod (tSe T) = 0 ∧ 0 < (tQ T).length then outF T 0 2 else T
def hopes (K : Kt) (T : Tt) (p : Int) : Int := if tB T p = 0 then kPa K p else 2 * kPa K p
def bears (K : Kt) (T : Tt) (p : Int) : Int := if kKd K p = 4 then kPa K p else if kKd K p = 5 then (kPa K p).tdiv 2 else if kKd K p = 3 then hopes K T p + (tS T p).tdiv 2 else hopes K T p
/-- all in the queue have stood 1 more -/
def olderF (T : Tt) : Tt := mkT (tQ T) (tW T) (fun p => if p ∈ tQ T then tS T p + 1 else tS T p) (tB T) (tO T) (tMi T) (tCa T) (tSe T) (tNx T)
def stays (K : Kt) (T : Tt) (crowd : Bool) (p : Int) : Bool := (crowd && decide (kKd K p = 2)) || decide (tS T p ≤ bears K T p)
/-- those of places from lo on, below hi, go if they don't stay -/
def leaveW (K : Kt) (T : Tt) (crowd : Bool) (lo hi : Nat) (p : Int) : Int := if lo ≤ (tQ T).idxOf p ∧ (tQ T).idxOf p < hi ∧ stays K T crowd p = false then 3 else tW T p
def leaveF (K : Kt) (T : Tt) (crowd : Bool) : Tt := mkT ((tQ T).filter (stays K T crowd)) (leaveW K T crowd 0 (tQ T).length) (tS T) (tB T) (tO T) (tMi T) (tCa T) (tSe T) (tNx T)
def standF (K : Kt) (T : Tt) : Tt := leaveF K (olderF T) (decide (6 ≤ (tQ T).length))
def joinF (T : Tt) (p : Int) : Tt := mkT (tQ T ++ [p]) (up (tW T) p 1) (tS T) (tB T) (tO T) (tMi T) (tCa T) (tSe T) (tNx T)
def meetF (K : Kt) (T : Tt) (there : Int) : Tt :=
  if tNx T < kPe K then (if ¬ there = 0 ∧ kNe K (tNx T) ≤ (tQ T).length then joinF (mkT (tQ T) (tW T) (tS T) (tB T) (tO T) (tMi T) (tCa T) (tSe T) (tNx T + 1)) (tNx T)
    else mkT (tQ T) (up (tW T) (tNx T) 4) (tS T) (tB T) (tO T) (tMi T) (tCa T) (tSe T) (tNx T + 1)) else T
def minF (K : Kt) (T : Tt) (there : Int) : Tt := meetF K (standF K (servF (tickF (tellF K T)))) there
/-! the class's town at a, told at t -/
def Tw (a t rm : Nat) : Prop := SS[a]? = some (6, 11, [some t, some (a + 1), some (a + 2), some (a + 3), some (a + 4), some (a + 5), none, none, none, none, none]) ∧ SS[a + 1]? = some (20, rm, []) ∧ SS[a + 2]? = some (20, rm, []) ∧ SS[a + 3]? = some (20, rm, []) ∧ SS[a + 4]? = some (20, rm, []) ∧ SS[a + 5]? = some (20, rm, [])
def RepC (M : Mem) (a : Nat) (K : Kt) (m : Int) (T : Tt) : Prop :=
  M a 6 = tMi T ∧ M a 7 = tCa T ∧ M a 8 = tSe T ∧ M a 9 = (tQ T).length ∧ M a 10 = tNx T ∧
  (∀ (i : Nat) (p : Int), (tQ T)[i]? = some p → M (a + 1) i = p) ∧
  ∀ p, Va K m p → M (a + 2) p = tB T p ∧ M (a + 3) p = tW T p ∧ M (a + 4) p = tS T p ∧ M (a + 5) p = tO T p
def RepK (M : Mem) (t : Nat) (K : Kt) (m : Int) : Prop := M t 7 = kPe K ∧ M t 6 = kWt K ∧ ∀ p, Va K m p → M (t + 1) p = kKd K p ∧ M (t + 2) p = kPa K p ∧ (p < kPe K → M (t + 4) p = kNe K p)
/-- nothing but the town at a has changed -/
def OutT (M M' : Mem) (a : Nat) : Prop := ∀ b j, (b < a ∨ a + 5 < b) → M' b j = M b j
theorem OutT.rf (M : Mem) (a : Nat) : OutT M M a := fun _ _ _ => rfl
theorem OutT.tr {M M1 M2 : Mem} {a : Nat} (h : OutT M M1 a) (h2 : OutT M1 M2 a) : OutT M M2 a := fun b j hb => (h2 b j hb).trans (h b j hb)
theorem OutT.mu {M M1 : Mem} {a b : Nat} {j v : Int} (h : OutT M M1 a) (hb : a ≤ b ∧ b ≤ a + 5) : OutT M (mu M1 b j v) a := fun c i hc => by
  rw [mu_ne (by omega)]
  exact h c i hc
theorem RepK.out {M M' : Mem} {a t : Nat} {K : Kt} {m : Int} (h : RepK M t K m) (ho : OutT M M' a) (ht : t + 4 < a ∨ a + 5 < t) : RepK M' t K m := by
  obtain ⟨h1, h2, h3⟩ := h
  refine ⟨by rw [ho _ _ (by omega)]; exact h1, by rw [ho _ _ (by omega)]; exact h2, fun p hp => ?_⟩
  obtain ⟨g1, g2, g3⟩ := h3 p hp
  exact ⟨by rw [ho _ _ (by omega)]; exact g1, by rw [ho _ _ (by omega)]; exact g2, fun q => by rw [ho _ _ (by omega)]; exact g3 q⟩
theorem mu_s (M : Mem) (a : Nat) (i v : Int) : mu M a i v a i = v := if_pos ⟨rfl, rfl⟩
theorem mu_j {M : Mem} {a b : Nat} {i j v : Int} (h : j ≠ i) : mu M a i v b j = M b j := if_neg (fun q => h q.2)
/-! queue places -/
theorem q_at {l : List Int} {i : Nat} (h : i < l.length) : l[i]? = some (l.getD i 0) := by
  rw [List.getD_eq_getElem?_getD, List.getElem?_eq_getElem h]
  rfl
theorem q_mem {l : List Int} {i : Nat} (h : i < l.length) : l.getD i 0 ∈ l := List.mem_of_getElem? (q_at h)
theorem q_idx {l : List Int} (hn : l.Nodup) {i : Nat} (h : i < l.length) : l.idxOf (l.getD i 0) = i := by
  have e : l.getD i 0 = l[i] := by rw [List.getD_eq_getElem?_getD, List.getElem?_eq_getElem h]; rfl
  rw [e]
  exact hn.idxOf_getElem i h
theorem q_get {l : List Int} {p : Int} (h : p ∈ l) : l.getD (l.idxOf p) 0 = p := by
  have hl := List.idxOf_lt_length_of_mem h
  rw [List.getD_eq_getElem?_getD, List.getElem?_eq_getElem hl]
  simp
theorem q_idx_lt {l : List Int} {p : Int} {n : Nat} (h : l.idxOf p < n) (hn : n ≤ l.length) : p ∈ l := List.idxOf_lt_length_iff.mp (Nat.lt_of_lt_of_le h hn)
theorem RepC.q {M : Mem} {a : Nat} {K : Kt} {m : Int} {T : Tt} (h : RepC M a K m T) {i : Int} (h0 : 0 ≤ i) (h1 : i < (tQ T).length) : M (a + 1) i = (tQ T).getD i.toNat 0 := by
  have h2 := h.2.2.2.2.2.1 i.toNat _ (q_at (by omega))
  rw [Int.toNat_of_nonneg h0] at h2
  exact h2
def whoF (T : Tt) (i : Int) : Int := if 0 ≤ i ∧ i < ((tQ T).length : Int) then (tQ T).getD i.toNat 0 else -1000000
theorem tdv {x : Int} (h : 0 ≤ x) : 0 ≤ x.tdiv 2 ∧ x.tdiv 2 ≤ x := by
  rw [Int.tdiv_eq_ediv_of_nonneg h]
  omega
/-- the people's side alone -/
def RepP (M : Mem) (a : Nat) (K : Kt) (m : Int) (T : Tt) : Prop := M a 7 = tCa T ∧ ∀ p, Va K m p → M (a + 2) p = tB T p ∧ M (a + 3) p = tW T p ∧ M (a + 4) p = tS T p ∧ M (a + 5) p = tO T p
theorem RepC.p {M : Mem} {a : Nat} {K : Kt} {m : Int} {T : Tt} (h : RepC M a K m T) : RepP M a K m T := ⟨h.2.1, h.2.2.2.2.2.2⟩
theorem bears_congr {K : Kt} {T U : Tt} {p : Int} (h1 : tB T p = tB U p) (h2 : tS T p = tS U p) : bears K T p = bears K U p := by
  unfold bears hopes
  rw [h1, h2]
section TELL
variable {K : Kt} {T : Tt} {k : Nat}
theorem tell_ne (hn : (tQ T).Nodup) {p : Int} (hp : p ≠ (tQ T).getD k 0) : hrs K T k (tQ T).length p ↔ hrs K T (k + 1) (tQ T).length p := by
  constructor
  · rintro ⟨h1, h2, h3⟩
    refine ⟨?_, h2, h3⟩
    rcases Nat.lt_or_ge k ((tQ T).idxOf p) with q | q
    · exact q
    · have e : (tQ T).idxOf p = k := Nat.le_antisymm q h1
      exact absurd (by rw [← e, q_get (q_idx_lt h2 (Nat.le_refl _))]) hp
  · rintro ⟨h1, h2, h3⟩
    exact ⟨by omega, h2, h3⟩
theorem tellB_ne (hn : (tQ T).Nodup) {p : Int} (hp : p ≠ (tQ T).getD k 0) : tellB K T k (tQ T).length p = tellB K T (k + 1) (tQ T).length p := by
  unfold tellB
  by_cases h : hrs K T k (tQ T).length p
  · rw [if_pos h, if_pos ((tell_ne hn hp).mp h)]
  · rw [if_neg h, if_neg (fun q => h ((tell_ne hn hp).mpr q))]
theorem tellO_ne (hn : (tQ T).Nodup) {p : Int} (hp : p ≠ (tQ T).getD k 0) : tellO K T k (tQ T).length p = tellO K T (k + 1) (tQ T).length p := by
  unfold tellO
  by_cases h : hrs K T k (tQ T).length p
  · rw [if_pos h, if_pos ((tell_ne hn hp).mp h)]
  · rw [if_neg h, if_neg (fun q => h ((tell_ne hn hp).mpr q))]
theorem fore_x (hn : (tQ T).Nodup) (hk : k < (tQ T).length) : fore T ((tQ T).getD k 0) = (tQ T).getD (k - 1) 0 := by
  unfold fore
  rw [q_idx hn hk]
theorem hrs_x (hn : (tQ T).Nodup) (hk : k < (tQ T).length) : hrs K T k (tQ T).length ((tQ T).getD k 0) ↔ (¬ bel K T ((tQ T).getD (k - 1) 0) = 0 ∧ takes K T ((tQ T).getD k 0)) := by
  unfold hrs
  rw [q_idx hn hk, fore_x hn hk]
  exact ⟨fun h => h.2.2, fun h => ⟨Nat.le_refl _, hk, h⟩⟩
theorem hrs_lo (hn : (tQ T).Nodup) {lo i hi : Nat} (hi' : i < (tQ T).length) (h : i < lo) : ¬ hrs K T lo hi ((tQ T).getD i 0) := by
  intro q
  have := q.1
  rw [q_idx hn hi'] at this
  omega
theorem tellB_lo (hn : (tQ T).Nodup) {lo i hi : Nat} (hi' : i < (tQ T).length) (h : i < lo) : tellB K T lo hi ((tQ T).getD i 0) = tB T ((tQ T).getD i 0) := if_neg (hrs_lo hn hi' h)
theorem tellO_lo (hn : (tQ T).Nodup) {lo i hi : Nat} (hi' : i < (tQ T).length) (h : i < lo) : tellO K T lo hi ((tQ T).getD i 0) = tO T ((tQ T).getD i 0) := if_neg (hrs_lo hn hi' h)
theorem tellP_skip (hn : (tQ T).Nodup) (hk : k < (tQ T).length) (h : ¬ (¬ bel K T ((tQ T).getD (k - 1) 0) = 0 ∧ takes K T ((tQ T).getD k 0))) : tellP K T k (tQ T).length = tellP K T (k + 1) (tQ T).length := by
  have e1 : tellB K T k (tQ T).length = tellB K T (k + 1) (tQ T).length := by
    funext p
    by_cases hp : p = (tQ T).getD k 0
    · subst hp
      rw [tellB_lo hn hk (Nat.lt_succ_self k)]
      exact if_neg (fun q => h ((hrs_x hn hk).mp q))
    · exact tellB_ne hn hp
  have e2 : tellO K T k (tQ T).length = tellO K T (k + 1) (tQ T).length := by
    funext p
    by_cases hp : p = (tQ T).getD k 0
    · subst hp
      rw [tellO_lo hn hk (Nat.lt_succ_self k)]
      exact if_neg (fun q => h ((hrs_x hn hk).mp q))
    · exact tellO_ne hn hp
  unfold tellP
  rw [e1, e2]
theorem tellP_0 (hl : (tQ T).length = 0) (lo lo' : Nat) : tellP K T lo (tQ T).length = tellP K T lo' (tQ T).length := by
  have e : ∀ lo p, ¬ hrs K T lo (tQ T).length p := fun lo p q => by have := q.2.1; omega
  have e1 : tellB K T lo (tQ T).length = tellB K T lo' (tQ T).length := by
    funext p
    unfold tellB
    rw [if_neg (e _ _), if_neg (e _ _)]
  have e2 : tellO K T lo (tQ T).length = tellO K T lo' (tQ T).length := by
    funext p
    unfold tellO
    rw [if_neg (e _ _), if_neg (e _ _)]
  unfold tellP
  rw [e1, e2]
/-- nothing told yet -/
theorem tellP_n {lo : Nat} (hl : lo = (tQ T).length) : tellP K T lo (tQ T).length = mkT (tQ T) (tW T) (tS T) (tB T) (tO T) (tMi T) (tCa T) (tSe T) (tNx T) := by
  have e : ∀ p, ¬ hrs K T lo (tQ T).length p := fun p q => by have := q.1; have := q.2.1; omega
  have e1 : tellB K T lo (tQ T).length = tB T := by
    funext p
    exact if_neg (e _)
  have e2 : tellO K T lo (tQ T).length = tO T := by
    funext p
    exact if_neg (e _)
  unfold tellP
  rw [e1, e2]
theorem mk_eta (T : Tt) : mkT (tQ T) (tW T) (tS T) (tB T) (tO T) (tMi T) (tCa T) (tSe T) (tNx T) = T := rfl
end TELL
