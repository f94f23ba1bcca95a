/-! eggs -/
theorem eL_toInt {n : Nat} (h : n < 2 ^ 63) : (Int64.ofNat n).toInt = n := lg_ofNat_toInt h
theorem eL_ext {x : Int64} {n : Nat} (h : n < 2 ^ 63) (e : x.toInt = n) : x = Int64.ofNat n := Int64.toInt_inj.1 (by rw [e, eL_toInt h])
theorem eL_of {n : Nat} (h : n < 2 ^ 31) : (nI n).toInt64 = Int64.ofNat n := eL_ext (by omega) (by rw [Int32.toInt_toInt64, nI_toInt h])
theorem eL_add {a b : Nat} (h : a + b < 2 ^ 63) : Int64.ofNat a + Int64.ofNat b = Int64.ofNat (a + b) := by
  refine eL_ext h ?_
  rw [Int64.toInt_add, eL_toInt (by omega), eL_toInt (by omega), Int.bmod_eq_of_le (by omega) (by omega)]
  omega
theorem eL_mul {a b : Nat} (ha : a < 2 ^ 63) (hb : b < 2 ^ 63) (h : a * b < 2 ^ 63) : Int64.ofNat a * Int64.ofNat b = Int64.ofNat (a * b) := by
  refine eL_ext h ?_
  have e : ((a : Int) * (b : Int)) = ((a * b : Nat) : Int) := (Int.natCast_mul a b).symm
  rw [Int64.toInt_mul, eL_toInt ha, eL_toInt hb, e, Int.bmod_eq_of_le (by omega) (by omega)]
theorem eL_div {a b : Nat} (ha : a < 2 ^ 63) (hb : b < 2 ^ 63) (h0 : 0 < b) : Int64.ofNat a / Int64.ofNat b = Int64.ofNat (a / b) := by
  have hle := Nat.div_le_self a b
  refine eL_ext (by omega) ?_
  rw [lg_ldiv_nonneg (by rw [eL_toInt ha]; omega) (by rw [eL_toInt hb]; omega), eL_toInt ha, eL_toInt hb]
  exact (Int.natCast_ediv a b).symm
theorem eL_sub {a b : Nat} (ha : a < 2 ^ 63) (h : b ≤ a) : Int64.ofNat a - Int64.ofNat b = Int64.ofNat (a - b) := by
  refine eL_ext (by omega) ?_
  rw [Int64.toInt_sub, eL_toInt ha, eL_toInt (by omega), Int.bmod_eq_of_le (by omega) (by omega)]
  omega
theorem eL_int {a : Nat} (h : a < 2 ^ 31) : (Int64.ofNat a).toInt32 = nI a := by
  rw [← eL_of h, lg_l2i_i2l]
theorem eL_ne {a : Nat} (h : a < 2 ^ 63) (h0 : 0 < a) : ¬ Int64.ofNat a = 0 := fun z => by
  have h1 := eL_toInt h
  rw [z, show (0 : Int64).toInt = 0 from rfl] at h1
  omega
theorem eL_mod {a b : Nat} (ha : a < 2 ^ 63) (hb : b < 2 ^ 63) (h0 : 0 < b) : Int64.ofNat a - Int64.ofNat a / Int64.ofNat b * Int64.ofNat b = Int64.ofNat (a % b) := by
  have hle := Nat.div_le_self a b
  have hm : a / b * b ≤ a := Nat.div_mul_le_self a b
  rw [eL_div ha hb h0, eL_mul (by omega) hb (by omega), eL_sub ha hm]
  congr 1
  have := Nat.div_add_mod a b
  rw [Nat.mul_comm] at this
  omega
/-- the least worth of a pair -/
def lstP (pw : Nat → Int32) : Nat → Int32
  | 0 => pw 0
  | k + 1 => if pw k < lstP pw k then pw k else lstP pw k
def pwOK (k : Nat) (pw : Nat → Int32) : Prop := ∀ i, i < k → -20000 ≤ (pw i).toInt ∧ (pw i).toInt ≤ 20000
theorem lstP_ok {pw : Nat → Int32} {k : Nat} (h : pwOK k pw) (hk : 0 < k) : ∀ m, m ≤ k → (-20000 ≤ (lstP pw m).toInt ∧ (lstP pw m).toInt ≤ 20000) ∧ ∀ i, i < m → (lstP pw m).toInt ≤ (pw i).toInt := by
  intro m
  induction m with
  | zero => intro _; exact ⟨h 0 hk, fun i hi => by omega⟩
  | succ m ih =>
    intro hm
    obtain ⟨i1, i2⟩ := ih (by omega)
    rw [lstP]
    split
    · rename_i hl
      rw [Int32.lt_iff_toInt_lt] at hl
      refine ⟨h m (by omega), fun i hi => ?_⟩
      rcases Nat.lt_or_ge i m with z | z
      · have := i2 i z; omega
      · rw [show i = m by omega]; exact Int.le_refl _
    · rename_i hl
      rw [Int32.lt_iff_toInt_lt] at hl
      refine ⟨i1, fun i hi => ?_⟩
      rcases Nat.lt_or_ge i m with z | z
      · exact i2 i z
      · rw [show i = m by omega]; omega
/-- the points of a pair -/
def ptP (pw : Nat → Int32) (k i : Nat) : Nat := ((pw i).toInt - (lstP pw k).toInt + 1).toNat
theorem ptP_ok {pw : Nat → Int32} {k i : Nat} (h : pwOK k pw) (hi : i < k) : 0 < ptP pw k i ∧ ptP pw k i ≤ 40001 ∧ pw i - (lstP pw k - 1) = nI (ptP pw k i) ∧ (pw i - lstP pw k) + 1 = nI (ptP pw k i) := by
  obtain ⟨i1, i2⟩ := lstP_ok h (by omega) k (Nat.le_refl _)
  have h1 := i2 i hi
  have h2 := h i hi
  have hb : 0 < ptP pw k i ∧ ptP pw k i ≤ 40001 := by unfold ptP; omega
  have hv : ((ptP pw k i : Nat) : Int) = (pw i).toInt - (lstP pw k).toInt + 1 := by unfold ptP; omega
  have o1 : (1 : Int32).toInt = 1 := rfl
  refine ⟨hb.1, hb.2, Int32.toInt_inj.1 ?_, Int32.toInt_inj.1 ?_⟩
  · rw [nI_toInt (by omega), Int32.toInt_sub, Int32.toInt_sub, o1, Int.bmod_eq_of_le (n := (lstP pw k).toInt - 1) (by omega) (by omega), Int.bmod_eq_of_le (by omega) (by omega)]
    omega
  · rw [nI_toInt (by omega), Int32.toInt_add, Int32.toInt_sub, o1, Int.bmod_eq_of_le (n := (pw i).toInt - (lstP pw k).toInt) (by omega) (by omega), Int.bmod_eq_of_le (by omega) (by omega)]
    omega
def sumN (p : Nat → Nat) : Nat → Nat
  | 0 => 0
  | j + 1 => sumN p j + p j
theorem sumN_le {p : Nat → Nat} {c k : Nat} (h : ∀ i, i < k → p i ≤ c) : ∀ j, j ≤ k → sumN p j ≤ c * j := by
  intro j
  induction j with
  | zero => intro _; exact Nat.zero_le _
  | succ j ih =>
    intro hj
    have := ih (by omega)
    have := h j (by omega)
    rw [sumN, Nat.mul_succ]
    omega
theorem sumN_mono {p : Nat → Nat} {j k : Nat} (h : j ≤ k) : sumN p j ≤ sumN p k := by
  induction k with
  | zero => rw [show j = 0 by omega]; exact Nat.le_refl _
  | succ k ih =>
    rcases Nat.lt_or_ge k j with z | z
    · rw [show j = k + 1 by omega]; exact Nat.le_refl _
    · have := ih z
      rw [sumN]
      omega
theorem sumN_pos {p : Nat → Nat} {k : Nat} (hk : 0 < k) (h : ∀ i, i < k → 0 < p i) : 0 < sumN p k := by
  have h1 := sumN_mono (p := p) (j := 1) (k := k) hk
  have h0 := h 0 hk
  rw [sumN, sumN] at h1
  omega
/-- what each gets at first, and what it lacks -/
def egN (N : Nat) (p : Nat → Nat) (k i : Nat) : Nat := N * p i / sumN p k
def rsN (N : Nat) (p : Nat → Nat) (k i : Nat) : Nat := N * p i % sumN p k
theorem eg_sum (N : Nat) (p : Nat → Nat) (k : Nat) : ∀ j, sumN (egN N p k) j * sumN p k + sumN (rsN N p k) j = N * sumN p j := by
  intro j
  induction j with
  | zero => rw [sumN, sumN, sumN, Nat.zero_mul, Nat.mul_zero]
  | succ j ih =>
    simp only [sumN, Nat.mul_add, Nat.add_mul]
    rw [← ih]
    have := Nat.div_add_mod (N * p j) (sumN p k)
    rw [Nat.mul_comm] at this
    have e1 : egN N p k j * sumN p k = N * p j / sumN p k * sumN p k := rfl
    have e2 : rsN N p k j = N * p j % sumN p k := rfl
    rw [e1, e2]
    omega
theorem eg_le {N k j : Nat} {p : Nat → Nat} (hp : 0 < sumN p k) (hj : j ≤ k) : sumN (egN N p k) j ≤ N := by
  have h := eg_sum N p k j
  have h2 : N * sumN p j ≤ N * sumN p k := Nat.mul_le_mul_left N (sumN_mono hj)
  have h3 : sumN (egN N p k) j * sumN p k ≤ N * sumN p k := by omega
  exact Nat.le_of_mul_le_mul_right h3 hp
theorem rs_lt {N k : Nat} {p : Nat → Nat} (hp : 0 < sumN p k) : ∀ j, 0 < j → sumN (rsN N p k) j < j * sumN p k := by
  intro j
  induction j with
  | zero => intro h; omega
  | succ j ih =>
    intro _
    have h1 : rsN N p k j < sumN p k := Nat.mod_lt _ hp
    rw [sumN, Nat.succ_mul]
    rcases Nat.eq_zero_or_pos j with z | z
    · subst z
      rw [sumN]
      omega
    · have := ih z
      omega
theorem left_lt {N k : Nat} {p : Nat → Nat} (hk : 0 < k) (hp : 0 < sumN p k) : N - sumN (egN N p k) k < k := by
  have h := eg_sum N p k k
  have h1 := rs_lt (N := N) hp k hk
  rcases Nat.lt_or_ge (N - sumN (egN N p k) k) k with z | z
  · exact z
  · have h2 : (k + sumN (egN N p k) k) * sumN p k ≤ N * sumN p k := Nat.mul_le_mul_right _ (by omega)
    rw [Nat.add_mul] at h2
    omega
/-- the pair that lacks most, of several the first -/
def grP (R : Nat → Int32) : Nat → Nat
  | 0 => 0
  | j + 1 => if j = 0 ∨ R j ≤ R (grP R j) then grP R j else j
theorem grP_lt (R : Nat → Int32) : ∀ j, 0 < j → grP R j < j := by
  intro j
  induction j with
  | zero => intro h; omega
  | succ j ih =>
    intro _
    rw [grP]
    split
    · rcases Nat.eq_zero_or_pos j with z | z
      · rw [z, grP]; omega
      · have := ih z; omega
    · omega
def gvP (k : Nat) : Nat → (Nat → Int32) → (Nat → Int32) → Nat → Int32
  | 0, E, _ => E
  | t + 1, E, R => gvP k t (upd E (grP R k) (E (grP R k) + 1)) (upd R (grP R k) (-1))
theorem gr_step {R : Nat → Int32} {j : Nat} {A : Nat → Prop} (h0 : 0 < j) (h : A (grP R (j + 1))) : (R j ≤ R (grP R j) → A (grP R j)) ∧ (¬ R j ≤ R (grP R j) → A j) := by
  rw [grP] at h
  constructor
  · intro z; rw [if_pos (Or.inr z)] at h; exact h
  · intro z; rw [if_neg (fun w => w.elim (fun q => by omega) z)] at h; exact h
theorem c_gr_a {k : Nat} (hk : k ≤ 6) {R : Nat → Int32} {cr : Nat → Int64} (hR : ∀ i, i < k → cr i = (R i).toInt64) {post : Int32 → Prop} (hp : post (nI (grP R k))) : ∀ q j : Nat, j + q = k → 0 < j → wp_Choice_greatestRest_L4 (nI k) cr post (q + 1) (nI (grP R j)) (nI j) := by
  intro q
  induction q with
  | zero =>
    intro j hj h0
    rw [wp_Choice_greatestRest_L4]
    refine pk_le k j (fun _ => ?_) (fun h => absurd h (by omega))
    rw [show j = k by omega]
    exact hp
  | succ q ih =>
    intro j hj h0
    rw [wp_Choice_greatestRest_L4]
    have hg := grP_lt R j h0
    have ih' := gr_step (A := fun g => wp_Choice_greatestRest_L4 (nI k) cr post (q + 1) (nI g) (nI (j + 1))) h0 (ih (j + 1) (by omega) (by omega))
    rw [nI_1, nI_clamp (n := j) (by omega), nI_clamp (n := grP R j) (by omega), hR j (by omega), hR (grP R j) (by omega), lg_cmp_le]
    have hle : ((R j).toInt64 ≤ (R (grP R j)).toInt64) ↔ R j ≤ R (grP R j) := by rw [Int64.le_iff_toInt_le, Int32.le_iff_toInt_le, Int32.toInt_toInt64, Int32.toInt_toInt64]
    rw [hle]
    exact pk_le k j (fun h => absurd h (by omega)) (fun _ => ⟨vp_in_nI (by omega) (by decide), vp_in_nI (by omega) (by decide), ih'⟩)
theorem c_gv_a {k L : Nat} (hk0 : 0 < k) (hk : k ≤ 6) (hL : L < k) {post : (Nat → Int32) → (Nat → Int64) → Prop} :
    ∀ (t i : Nat) (E R ce : Nat → Int32) (cr : Nat → Int64), i + t = L → (∀ i, i < k → ce i = E i) → (∀ i, i < k → cr i = (R i).toInt64) → (∀ ce' cr', (∀ i, i < k → ce' i = gvP k t E R i) → post ce' cr') → wp_Choice_giveLeftOnes_L2 (nI k) (nI L) post (t + 1) (nI i) ce cr := by
  intro t
  induction t with
  | zero =>
    intro i E R ce cr hi hE hR hp
    rw [wp_Choice_giveLeftOnes_L2]
    exact pk_le L i (fun _ => hp ce cr hE) (fun h => absurd h (by omega))
  | succ t ih =>
    intro i E R ce cr hi hE hR hp
    rw [wp_Choice_giveLeftOnes_L2]
    refine pk_le L i (fun h => absurd h (by omega)) (fun _ => pk_le k i (fun h => absurd h (by omega)) (fun _ => ?_))
    have hg := grP_lt R k hk0
    unfold wp_Choice_greatestRest
    refine ⟨k, ?_⟩
    have h1 : wp_Choice_greatestRest_L4 (nI k) cr _ (k - 1 + 1) (nI (grP R 1)) (nI 1) := c_gr_a hk hR (post := fun r3 => vp_in r3 6 ∧ (vp_in r3 6 ∧ (vp_in r3 6 ∧ (wp_Choice_giveLeftOnes_L2 (nI k) (nI L) post (t + 1) (nI i + 1) (upd ce r3.toNatClampNeg ((ce r3.toNatClampNeg) + 1)) (vp_updL cr r3.toNatClampNeg (-1 : Int64)))))) ?_ (k - 1) 1 (by omega) (by omega)
    · rw [show k - 1 + 1 = k by omega] at h1
      exact h1
    · refine ⟨vp_in_nI (by omega) (by decide), vp_in_nI (by omega) (by decide), vp_in_nI (by omega) (by decide), ?_⟩
      rw [nI_1, nI_clamp (n := grP R k) (by omega)]
      refine ih (i + 1) (upd E (grP R k) (E (grP R k) + 1)) (upd R (grP R k) (-1)) _ _ (by omega) (fun j hj => ?_) (fun j hj => ?_) (fun ce' cr' h => hp ce' cr' h)
      · by_cases e : j = grP R k
        · rw [e, pk_us, pk_us, hE _ hg]
        · rw [pk_un e, pk_un e, hE j hj]
      · unfold vp_updL
        by_cases e : j = grP R k
        · rw [if_pos e, e, pk_us]
          rfl
        · rw [if_neg e, pk_un e, hR j hj]
theorem m_gr_a {k : Nat} (hk : k ≤ 6) {R eg rs : Nat → Int32} {x5 : Int32} (hR : ∀ i, i < k → rs i = R i) {post : Int32 → (Nat → Int32) → (Nat → Int32) → (Nat → Int32) → Prop} {K : Int32 → Int32 → (Nat → Int32) → (Nat → Int32) → Prop} (hk0 : 0 < k) (hK : K (x5 + (-1)) (nI (grP R k)) (upd eg (grP R k) (eg (grP R k) + 1)) (upd rs (grP R k) (-1))) : ∀ q j : Nat, j + q = k → 0 < j → wp_M_eggs_L198 (nI k) x5 eg rs post K (q + 1) (nI (grP R j)) (nI j) := by
  intro q
  induction q with
  | zero =>
    intro j hj h0
    rw [wp_M_eggs_L198]
    rw [show j = k by omega]
    have hg := grP_lt R k hk0
    refine pk_le k k (fun _ => ⟨vp_in_nI (by omega) (by decide), vp_in_nI (by omega) (by decide), vp_in_nI (by omega) (by decide), ?_⟩) (fun h => absurd h (by omega))
    rw [nI_clamp (n := grP R k) (by omega)]
    exact hK
  | succ q ih =>
    intro j hj h0
    rw [wp_M_eggs_L198]
    have hg := grP_lt R j h0
    have ih' := gr_step (A := fun g => wp_M_eggs_L198 (nI k) x5 eg rs post K (q + 1) (nI g) (nI (j + 1))) h0 (ih (j + 1) (by omega) (by omega))
    rw [nI_1, nI_clamp (n := j) (by omega), nI_clamp (n := grP R j) (by omega), hR j (by omega), hR (grP R j) (by omega)]
    exact pk_le k j (fun h => absurd h (by omega)) (fun _ => ⟨vp_in_nI (by omega) (by decide), vp_in_nI (by omega) (by decide), ih'⟩)
theorem nI_dec (t : Nat) : nI (t + 1) + (-1) = nI t := by
  rw [← nI_1]
  show nI t + 1 + (-1) = nI t
  rw [Int32.add_assoc, show (1 : Int32) + (-1) = 0 from by decide, Int32.add_zero]
theorem m_gv_a {k : Nat} (hk0 : 0 < k) (hk : k ≤ 6) {pts : Nat → Int32} {post : Int32 → (Nat → Int32) → (Nat → Int32) → (Nat → Int32) → Prop} :
    ∀ (t : Nat) (x6 : Int32) (E R eg rs : Nat → Int32), t < 2 ^ 31 → (∀ i, i < k → eg i = E i) → (∀ i, i < k → rs i = R i) → (∀ eg' rs', (∀ i, i < k → eg' i = gvP k t E R i) → post (eg' 0) eg' pts rs') → wp_M_eggs_L187 (nI k) pts post (t + 1) (nI t) x6 eg rs := by
  intro t
  induction t with
  | zero =>
    intro x6 E R eg rs ht hE hR hp
    rw [wp_M_eggs_L187]
    exact ⟨fun _ => ⟨vp_in_nI (n := 0) (by omega) (by decide), hp eg rs hE⟩, fun z => absurd (by decide) z⟩
  | succ t ih =>
    intro x6 E R eg rs ht hE hR hp
    rw [wp_M_eggs_L187]
    have hg := grP_lt R k hk0
    refine ⟨fun z => ?_, fun _ => ⟨k, ?_⟩⟩
    · rw [Int32.le_iff_toInt_le, nI_toInt ht, show (0 : Int32).toInt = 0 from rfl] at z
      omega
    · have h1 := m_gr_a (x5 := nI (t + 1)) (eg := eg) (post := post) hk hR hk0 (K := fun z0 z1 z2 z3 => wp_M_eggs_L187 (nI k) pts post (t + 1) z0 z1 z2 z3) ?_ (k - 1) 1 (by omega) (by omega)
      · rw [show k - 1 + 1 = k by omega] at h1
        exact h1
      · rw [nI_dec]
        refine ih (nI (grP R k)) (upd E (grP R k) (E (grP R k) + 1)) (upd R (grP R k) (-1)) _ _ (by omega) (fun j hj => ?_) (fun j hj => ?_) (fun eg' rs' h => hp eg' rs' h)
        · by_cases e : j = grP R k
          · rw [e, pk_us, pk_us, hE _ hg]
          · rw [pk_un e, pk_un e, hE j hj]
        · by_cases e : j = grP R k
          · rw [e, pk_us, pk_us]
          · rw [pk_un e, pk_un e, hR j hj]
def PWr (k : Nat) (wt cf cm pw : Nat → Int32) : Prop := ∀ i, i < k → ∃ a f, a < 12 ∧ f < 12 ∧ cm i = nI a ∧ cf i = nI f ∧ pw i = wt a + wt f
theorem c_pw {k j : Nat} {wt cf cm pw : Nat → Int32} (h : PWr k wt cf cm pw) (hk : k ≤ 6) (hj : j < k) {post : Int32 → Prop} (hp : post (pw j)) : wp_Choice_pairWorth wt cf cm (nI j) post := by
  obtain ⟨a, f, ha, hf, e1, e2, e3⟩ := h j hj
  unfold wp_Choice_pairWorth
  rw [nI_clamp (n := j) (by omega), e1, e2, nI_clamp (n := a) (by omega), nI_clamp (n := f) (by omega), ← e3]
  exact ⟨vp_in_nI (by omega) (by decide), vp_in_nI (by omega) (by decide), vp_in_nI (by omega) (by decide), vp_in_nI (by omega) (by decide), hp⟩
theorem m_pw {k j : Nat} {wt cf cm pw : Nat → Int32} (h : PWr k wt cf cm pw) (hk : k ≤ 6) (hj : j < k) {post : Int32 → Prop} (hp : post (pw j)) : wp_M_pairWorth cm cf wt (nI j) post := by
  obtain ⟨a, f, ha, hf, e1, e2, e3⟩ := h j hj
  unfold wp_M_pairWorth
  rw [nI_clamp (n := j) (by omega), e1, e2, nI_clamp (n := a) (by omega), nI_clamp (n := f) (by omega), ← e3]
  exact ⟨vp_in_nI (by omega) (by decide), vp_in_nI (by omega) (by decide), vp_in_nI (by omega) (by decide), vp_in_nI (by omega) (by decide), hp⟩
theorem lstP_1 (pw : Nat → Int32) : lstP pw 1 = pw 0 := by
  rw [lstP, lstP]
  split <;> rfl
theorem c_lst_a {k : Nat} {wt cf cm pw : Nat → Int32} (h : PWr k wt cf cm pw) (hk : k ≤ 6) {post : Int32 → Prop} (hp : post (lstP pw k)) : ∀ q j : Nat, j + q = k → wp_Choice_leastPairWorth_L8 wt cf cm (nI k) post (q + 1) (lstP pw j) (nI j) := by
  intro q
  induction q with
  | zero =>
    intro j hj
    rw [wp_Choice_leastPairWorth_L8]
    refine pk_le k j (fun _ => ?_) (fun h => absurd h (by omega))
    rw [show j = k by omega]
    exact hp
  | succ q ih =>
    intro j hj
    rw [wp_Choice_leastPairWorth_L8, nI_1]
    exact pk_le k j (fun h => absurd h (by omega)) (fun _ => c_pw h hk (by omega) (ih (j + 1) (by omega)))
theorem nI_sub' {a b : Nat} (ha : a < 2 ^ 31) (h : b ≤ a) : nI a - nI b = nI (a - b) := by
  refine Int32.toInt_inj.1 ?_
  rw [Int32.toInt_sub, nI_toInt ha, nI_toInt (by omega), nI_toInt (by omega), Int.bmod_eq_of_le (by omega) (by omega)]
  omega
/-- what the sharing needs of its numbers -/
theorem sh_num {k N j : Nat} {p : Nat → Nat} (hk : k ≤ 6) (hN : N ≤ 100000) (hp : ∀ i, i < k → 0 < p i ∧ p i ≤ 40001) (hj : j < k) :
    0 < sumN p k ∧ sumN p k < 2 ^ 31 ∧ ((nI N).toInt64 * (nI (p j)).toInt64 / Int64.ofNat (sumN p k)).toInt32 = nI (egN N p k j) ∧ (nI N).toInt64 * (nI (p j)).toInt64 - (nI N).toInt64 * (nI (p j)).toInt64 / Int64.ofNat (sumN p k) * Int64.ofNat (sumN p k) = (nI (rsN N p k j)).toInt64 ∧
    nI (N - sumN (egN N p k) j) - nI (egN N p k j) = nI (N - sumN (egN N p k) (j + 1)) := by
  have hs0 : 0 < sumN p k := sumN_pos (by omega) (fun i hi => (hp i hi).1)
  have hs1 := sumN_le (p := p) (c := 40001) (k := k) (fun i hi => (hp i hi).2) k (Nat.le_refl _)
  have hpj := hp j hj
  have hm : N * p j ≤ 100000 * 40001 := Nat.mul_le_mul hN hpj.2
  have hle := eg_le (N := N) (p := p) (k := k) (j := j + 1) hs0 (by omega)
  have hle' := hle
  rw [sumN] at hle'
  have hr : rsN N p k j < sumN p k := Nat.mod_lt _ hs0
  have e1 : (nI N).toInt64 * (nI (p j)).toInt64 = Int64.ofNat (N * p j) := by
    rw [eL_of (by omega), eL_of (by omega), eL_mul (by omega) (by omega) (by omega)]
  refine ⟨hs0, by omega, ?_, ?_, ?_⟩
  · rw [e1, eL_div (by omega) (by omega) hs0]
    show (Int64.ofNat (egN N p k j)).toInt32 = _
    exact eL_int (by omega)
  · rw [e1, eL_mod (by omega) (by omega) hs0]
    show Int64.ofNat (rsN N p k j) = _
    rw [eL_of (by omega)]
  · rw [nI_sub' (by omega) (by omega), sumN]
    congr 1
    omega
theorem c_sh52 {k N : Nat} {wt cf cm pw : Nat → Int32} (h : PWr k wt cf cm pw) (ho : pwOK k pw) (hk0 : 0 < k) (hk : k ≤ 6) (hN : N ≤ 100000) {post : (Nat → Int32) → (Nat → Int64) → Prop} (hp : ∀ ce cr, (∀ i, i < k → ce i = gvP k (N - sumN (egN N (ptP pw k) k) k) (fun i => nI (egN N (ptP pw k) k i)) (fun i => nI (rsN N (ptP pw k) k i)) i) → post ce cr) :
    ∀ (q j : Nat) (ce : Nat → Int32) (cr : Nat → Int64), j + q = k → (∀ i, i < j → ce i = nI (egN N (ptP pw k) k i)) → (∀ i, i < j → cr i = (nI (rsN N (ptP pw k) k i)).toInt64) → wp_Choice_shareOut_L52 wt cf cm (nI k) (nI N) (lstP pw k) (Int64.ofNat (sumN (ptP pw k) k)) post (q + 1) (nI (N - sumN (egN N (ptP pw k) k) j)) (nI j) ce cr := by
  have hpt : ∀ i, i < k → 0 < ptP pw k i ∧ ptP pw k i ≤ 40001 := fun i hi => ⟨(ptP_ok ho hi).1, (ptP_ok ho hi).2.1⟩
  intro q
  induction q with
  | zero =>
    intro j ce cr hj h1 h2
    rw [wp_Choice_shareOut_L52]
    rw [show j = k by omega] at h1 h2 ⊢
    refine pk_le k k (fun _ => ?_) (fun h => absurd h (by omega))
    unfold wp_Choice_giveLeftOnes
    exact ⟨_, c_gv_a hk0 hk (left_lt hk0 (sh_num hk hN hpt hk0).1) _ 0 (fun i => nI (egN N (ptP pw k) k i)) (fun i => nI (rsN N (ptP pw k) k i)) ce cr (by omega) h1 h2 hp⟩
  | succ q ih =>
    intro j ce cr hj h1 h2
    rw [wp_Choice_shareOut_L52]
    refine pk_le k j (fun h => absurd h (by omega)) (fun _ => c_pw h hk (by omega) ?_)
    obtain ⟨s1, s2, s3, s4, s5⟩ := sh_num (j := j) hk hN hpt (by omega)
    rw [(ptP_ok ho (show j < k by omega)).2.2.1, s3, s4, nI_1, nI_clamp (n := j) (by omega), pk_us, s5]
    refine ⟨eL_ne (by omega) s1, vp_in_nI (by omega) (by decide), eL_ne (by omega) s1, vp_in_nI (by omega) (by decide), vp_in_nI (by omega) (by decide), ?_⟩
    refine ih (j + 1) _ _ (by omega) (fun i hi => ?_) (fun i hi => ?_)
    · by_cases e : i = j
      · rw [e, pk_us]
      · rw [pk_un e]
        exact h1 i (by omega)
    · unfold vp_updL
      by_cases e : i = j
      · rw [if_pos e, e]
      · rw [if_neg e]
        exact h2 i (by omega)
theorem c_sh12 {k N : Nat} {wt cf cm pw ce : Nat → Int32} {cr : Nat → Int64} (h : PWr k wt cf cm pw) (ho : pwOK k pw) (hk0 : 0 < k) (hk : k ≤ 6) (hN : N ≤ 100000) {post : (Nat → Int32) → (Nat → Int64) → Prop} (hp : ∀ ce cr, (∀ i, i < k → ce i = gvP k (N - sumN (egN N (ptP pw k) k) k) (fun i => nI (egN N (ptP pw k) k i)) (fun i => nI (rsN N (ptP pw k) k i)) i) → post ce cr) :
    ∀ q j : Nat, j + q = k → wp_Choice_shareOut_L12 ce wt cf cm (nI k) cr (nI N) (lstP pw k) post (q + 1) (Int64.ofNat (sumN (ptP pw k) j)) (nI j) := by
  have hpt : ∀ i, i < k → 0 < ptP pw k i ∧ ptP pw k i ≤ 40001 := fun i hi => ⟨(ptP_ok ho hi).1, (ptP_ok ho hi).2.1⟩
  intro q
  induction q with
  | zero =>
    intro j hj
    rw [wp_Choice_shareOut_L12]
    rw [show j = k by omega]
    obtain ⟨s1, s2, _⟩ := sh_num (j := 0) hk hN hpt hk0
    have hge : 0 ≤ lg_cmp (Int64.ofNat (sumN (ptP pw k) k)) (1 : Int64) := by
      rw [lg_cmp_ge, Int64.le_iff_toInt_le, eL_toInt (by omega), show (1 : Int64).toInt = 1 from rfl]
      omega
    refine pk_le k k (fun _ => ⟨fun _ => ⟨k + 1, ?_⟩, fun z => absurd hge z⟩) (fun h => absurd h (by omega))
    exact c_sh52 h ho hk0 hk hN hp k 0 ce cr (by omega) (fun i hi => by omega) (fun i hi => by omega)
  | succ q ih =>
    intro j hj
    rw [wp_Choice_shareOut_L12, nI_1]
    refine pk_le k j (fun h => absurd h (by omega)) (fun _ => c_pw h hk (by omega) ?_)
    have hpj := ptP_ok ho (show j < k by omega)
    have hs := sumN_le (p := ptP pw k) (c := 40001) (k := k) (fun i hi => (hpt i hi).2) j (by omega)
    rw [hpj.2.2.1, eL_of (by omega), eL_add (by omega)]
    exact ih (j + 1) (by omega)
theorem c_share {k N : Nat} {wt cf cm pw ce : Nat → Int32} {cr : Nat → Int64} (h : PWr k wt cf cm pw) (ho : pwOK k pw) (hk0 : 0 < k) (hk : k ≤ 6) (hN : N ≤ 100000) {post : (Nat → Int32) → (Nat → Int64) → Prop} (hp : ∀ ce cr, (∀ i, i < k → ce i = gvP k (N - sumN (egN N (ptP pw k) k) k) (fun i => nI (egN N (ptP pw k) k i)) (fun i => nI (rsN N (ptP pw k) k i)) i) → post ce cr) : wp_Choice_shareOut ce wt cf cm (nI k) cr (nI N) post := by
  unfold wp_Choice_shareOut wp_Choice_leastPairWorth
  refine c_pw (j := 0) h hk hk0 ⟨k, ?_⟩
  have := c_lst_a h hk (post := fun r1 => ∃ n12, wp_Choice_shareOut_L12 ce wt cf cm (nI k) cr (nI N) r1 post n12 (0 : Int64) (0)) ⟨k + 1, c_sh12 h ho hk0 hk hN hp k 0 (by omega)⟩ (k - 1) 1 (by omega)
  rw [lstP_1, show k - 1 + 1 = k by omega] at this
  exact this
theorem m_118 {k N : Nat} {pw pts : Nat → Int32} (hpts : ∀ i, i < k → pts i = nI (ptP pw k i)) (ho : pwOK k pw) (hk0 : 0 < k) (hk : k ≤ 6) (hN : N ≤ 100000) {post : Int32 → (Nat → Int32) → (Nat → Int32) → (Nat → Int32) → Prop} (hp : ∀ eg rs, (∀ i, i < k → eg i = gvP k (N - sumN (egN N (ptP pw k) k) k) (fun i => nI (egN N (ptP pw k) k i)) (fun i => nI (rsN N (ptP pw k) k i)) i) → post (eg 0) eg pts rs) :
    ∀ (q j : Nat) (eg rs : Nat → Int32), j + q = k → (∀ i, i < j → eg i = nI (egN N (ptP pw k) k i)) → (∀ i, i < j → rs i = nI (rsN N (ptP pw k) k i)) → wp_M_eggs_L118 (nI k) (nI N) (Int64.ofNat (sumN (ptP pw k) k)) pts post (q + 1) (nI (N - sumN (egN N (ptP pw k) k) j)) (nI j) eg rs := by
  have hpt : ∀ i, i < k → 0 < ptP pw k i ∧ ptP pw k i ≤ 40001 := fun i hi => ⟨(ptP_ok ho hi).1, (ptP_ok ho hi).2.1⟩
  intro q
  induction q with
  | zero =>
    intro j eg rs hj h1 h2
    rw [wp_M_eggs_L118]
    rw [show j = k by omega] at h1 h2 ⊢
    exact pk_le k k (fun _ => ⟨_, m_gv_a hk0 hk _ (nI k) (fun i => nI (egN N (ptP pw k) k i)) (fun i => nI (rsN N (ptP pw k) k i)) eg rs (by omega) h1 h2 hp⟩) (fun h => absurd h (by omega))
  | succ q ih =>
    intro j eg rs hj h1 h2
    rw [wp_M_eggs_L118]
    obtain ⟨s1, s2, s3, s4, s5⟩ := sh_num (j := j) hk hN hpt (by omega)
    rw [nI_1, nI_clamp (n := j) (by omega), hpts j (by omega), s3, s4, pk_us, s5, lg_l2i_i2l]
    refine pk_le k j (fun h => absurd h (by omega)) (fun _ => ⟨vp_in_nI (by omega) (by decide), eL_ne (by omega) s1, vp_in_nI (by omega) (by decide), vp_in_nI (by omega) (by decide), eL_ne (by omega) s1, vp_in_nI (by omega) (by decide), vp_in_nI (by omega) (by decide), ?_⟩)
    refine ih (j + 1) _ _ (by omega) (fun i hi => ?_) (fun i hi => ?_)
    · by_cases e : i = j
      · rw [e, pk_us]
      · rw [pk_un e]
        exact h1 i (by omega)
    · by_cases e : i = j
      · rw [e, pk_us]
      · rw [pk_un e]
        exact h2 i (by omega)
theorem m_69 {k N : Nat} {wt cf cm pw eg rs : Nat → Int32} (h : PWr k wt cf cm pw) (ho : pwOK k pw) (hk0 : 0 < k) (hk : k ≤ 6) (hN : N ≤ 100000) {post : Int32 → (Nat → Int32) → (Nat → Int32) → (Nat → Int32) → Prop} (hp : ∀ pts eg rs, (∀ i, i < k → eg i = gvP k (N - sumN (egN N (ptP pw k) k) k) (fun i => nI (egN N (ptP pw k) k i)) (fun i => nI (rsN N (ptP pw k) k i)) i) → post (eg 0) eg pts rs) :
    ∀ (q j : Nat) (pts : Nat → Int32), j + q = k → (∀ i, i < j → pts i = nI (ptP pw k i)) → wp_M_eggs_L69 eg cm (nI k) rs cf wt (nI N) (lstP pw k) post (q + 1) (Int64.ofNat (sumN (ptP pw k) j)) (nI j) pts := by
  intro q
  induction q with
  | zero =>
    intro j pts hj h1
    rw [wp_M_eggs_L69]
    rw [show j = k by omega] at h1 ⊢
    exact pk_le k k (fun _ => ⟨k + 1, m_118 h1 ho hk0 hk hN (hp pts) k 0 eg rs (by omega) (fun i hi => by omega) (fun i hi => by omega)⟩) (fun h => absurd h (by omega))
  | succ q ih =>
    intro j pts hj h1
    rw [wp_M_eggs_L69, nI_1]
    refine pk_le k j (fun h => absurd h (by omega)) (fun _ => m_pw h hk (by omega) ⟨vp_in_nI (by omega) (by decide), vp_in_nI (by omega) (by decide), ?_⟩)
    have hpj := ptP_ok ho (show j < k by omega)
    have hs := sumN_le (p := ptP pw k) (c := 40001) (k := k) (fun i hi => (ptP_ok ho hi).2.1) j (by omega)
    rw [nI_clamp (n := j) (by omega), pk_us, hpj.2.2.2, eL_of (by omega), eL_add (by omega)]
    refine ih (j + 1) _ (by omega) (fun i hi => ?_)
    by_cases e : i = j
    · rw [e, pk_us]
    · rw [pk_un e]
      exact h1 i (by omega)
theorem m_lst_a {k N : Nat} {wt cf cm pw eg pts rs : Nat → Int32} (h : PWr k wt cf cm pw) (hk : k ≤ 6) {post : Int32 → (Nat → Int32) → (Nat → Int32) → (Nat → Int32) → Prop} (hp : ∃ n69, wp_M_eggs_L69 eg cm (nI k) rs cf wt (nI N) (lstP pw k) post n69 (0 : Int64) (0) pts) : ∀ q j : Nat, j + q = k → wp_M_eggs_L31 eg cm (nI k) pts rs cf wt (nI N) post (q + 1) (lstP pw j) (nI j) := by
  intro q
  induction q with
  | zero =>
    intro j hj
    rw [wp_M_eggs_L31]
    refine pk_le k j (fun _ => ?_) (fun h => absurd h (by omega))
    rw [show j = k by omega]
    exact hp
  | succ q ih =>
    intro j hj
    rw [wp_M_eggs_L31, nI_1]
    have ih' := ih (j + 1) (by omega)
    rw [lstP] at ih'
    refine pk_le k j (fun h => absurd h (by omega)) (fun _ => m_pw h hk (by omega) ⟨fun z => ?_, fun z => m_pw h hk (by omega) ?_⟩)
    · rw [if_neg (fun w => by rw [Int32.le_iff_toInt_le] at z; rw [Int32.lt_iff_toInt_lt] at w; omega)] at ih'
      exact ih'
    · rw [if_pos (by rw [Int32.le_iff_toInt_le] at z; rw [Int32.lt_iff_toInt_lt]; omega)] at ih'
      exact ih'
set_option maxHeartbeats 4000000 in
theorem pu_eggs {hb : (Nat → Int32)} {hc : Int32} {hf : (Nat → Int32)} {hl : Int32} {hk : (Nat → Nat → Int32)} {ht : (Nat → Int32)} {hm he : Int32} {hw sl : (Nat → Int32)} {sp ss : Int32} {su ce cf cm : (Nat → Int32)} {cp cs cn : Int32} {oa ob : (Nat → Int32)} {oy : Int32} {cr : (Nat → Int64)} {m_animals : Int32} {m_sexes m_worths m_families m_kins m_isBarred : (Nat → Int32)} {m_limit m_most : Int32} {m_leasts : (Nat → Int32)} {m_tested m_pairs m_choice m_choiceSets : Int32} {m_he m_she m_eggs : (Nat → Int32)} {m_years : Int32} {m_alive m_yearSets m_yearWorths m_points m_rests : (Nat → Int32)} (R : RR hb hc hf hl hk ht hm he hw sl sp ss su ce cf cm cp cs cn oa ob oy m_animals m_sexes m_worths m_families m_kins m_isBarred m_limit m_most m_leasts m_tested m_pairs m_choice m_choiceSets m_he m_she m_eggs m_years m_alive m_yearSets m_yearWorths) (x1 : Int32) : wp_PairChoice_eggs ce cf cm cp cr hw x1 (fun r ce' cr' => wp_M_eggs m_eggs m_he m_pairs m_points m_rests m_she m_worths x1 (fun r' m_eggs' m_points' m_rests' => r = r' ∧ RR hb hc hf hl hk ht hm he hw sl sp ss su ce' cf cm cp cs cn oa ob oy m_animals m_sexes m_worths m_families m_kins m_isBarred m_limit m_most m_leasts m_tested m_pairs m_choice m_choiceSets m_he m_she m_eggs' m_years m_alive m_yearSets m_yearWorths)) := by
  obtain ⟨n, M, rfl, rfl, rfl, rfl, rfl, rfl, rfl, hH, hL, hC, hO, rfl⟩ := id R
  obtain ⟨hn, hMn, _⟩ := id hH.1
  have hwt := hH.2.2.2.2.2.2.2
  unfold wp_PairChoice_eggs wp_M_eggs
  by_cases r1 : 0 ≤ x1 ∧ x1 ≤ 100000
  · rcases id hC with ⟨rfl, rfl⟩ | ⟨k, S, hk0, hk6, rfl, rfl, hS, rfl, rfl, rfl, hI⟩
    · exact w_w1 r1 (n1 (p1 rfl (w_i1 r1 (n1 (p1 rfl ⟨rfl, R⟩)))))
    · obtain ⟨N, hN, rfl⟩ := nI_of2 (x := x1) (M := 100000) (n := 100000) rfl (by have := r1.1; rw [Int32.le_iff_toInt_le] at this; rw [Int32.lt_iff_toInt_lt]; omega) r1.2
      have hne := nI_ne0 hk0 (show k < 2 ^ 31 by omega)
      have hPc : PWr k hw cf cm (fun i => hw (cm i).toNatClampNeg + hw (cf i).toNatClampNeg) := fun i hi => by
        obtain ⟨_, a, f, ha, hf, e1, e2, e3, e4⟩ := hI i hi
        refine ⟨a, f, by omega, by omega, e1, e3, ?_⟩
        show hw (cm i).toNatClampNeg + hw (cf i).toNatClampNeg = _
        rw [e1, e3, nI_clamp (n := a) (by omega), nI_clamp (n := f) (by omega)]
      have hPm : PWr k hw m_she m_he (fun i => hw (cm i).toNatClampNeg + hw (cf i).toNatClampNeg) := fun i hi => by
        obtain ⟨_, a, f, ha, hf, e1, e2, e3, e4⟩ := hI i hi
        refine ⟨a, f, by omega, by omega, e2, e4, ?_⟩
        show hw (cm i).toNatClampNeg + hw (cf i).toNatClampNeg = _
        rw [e1, e3, nI_clamp (n := a) (by omega), nI_clamp (n := f) (by omega)]
      have ho : pwOK k (fun i => hw (cm i).toNatClampNeg + hw (cf i).toNatClampNeg) := fun i hi => by
        obtain ⟨_, a, f, ha, hf, e1, e2, e3, e4⟩ := hI i hi
        have h1 := hwt a ha
        have h2 := hwt f hf
        rw [Int32.le_iff_toInt_le, Int32.le_iff_toInt_le, show (-10000 : Int32).toInt = -10000 from by decide, show (10000 : Int32).toInt = 10000 from by decide] at h1 h2
        show -20000 ≤ (hw (cm i).toNatClampNeg + hw (cf i).toNatClampNeg).toInt ∧ (hw (cm i).toNatClampNeg + hw (cf i).toNatClampNeg).toInt ≤ 20000
        rw [e1, e3, nI_clamp (n := a) (by omega), nI_clamp (n := f) (by omega), a32 (by omega) (by omega)]
        omega
      refine w_w1 r1 (n1 (p0 hne (c_share hPc ho hk0 hk6 hN (fun ce' cr' hce => ⟨vp_in_nI (n := 0) (by omega) (by decide), ?_⟩))))
      refine w_i1 r1 (n1 (p0 hne (m_pw (j := 0) hPm hk6 hk0 ⟨k, ?_⟩)))
      have := m_lst_a (eg := m_eggs) (pts := m_points) (rs := m_rests) (N := N) hPm hk6 ⟨k + 1, m_69 hPm ho hk0 hk6 hN (post := fun r' m_eggs' m_points' m_rests' => ce' 0 = r' ∧ RR hb (nI n) hf hl hk ht (nI M) he hw sl sp ss su ce' cf cm (nI k) (nI S) cn oa ob oy (nI n) m_sexes hw m_families m_kins m_isBarred hl he ht (-1) (nI k) (nI S) cn m_he m_she m_eggs' m_years m_alive m_yearSets m_yearWorths) (fun pts eg rs heg => ?_) k 0 m_points (by omega) (fun i hi => by omega)⟩ (k - 1) 1 (by omega)
      · rw [lstP_1, show k - 1 + 1 = k by omega] at this
        exact this
      · refine ⟨by rw [hce 0 hk0, heg 0 hk0], n, M, rfl, rfl, rfl, rfl, rfl, rfl, rfl, hH, hL, Or.inr ⟨k, S, hk0, hk6, rfl, rfl, hS, rfl, rfl, rfl, fun i hi => ⟨by rw [hce i hi, heg i hi], (hI i hi).2⟩⟩, hO, rfl⟩
  · exact w_w0 r1 (n0 (w_i0 r1 (n0 ⟨rfl, R⟩)))
