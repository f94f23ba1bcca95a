/-! ahead -/
def fateV (x0 : Int64) : Int64 := ((((((x0 * (-7046029254386353131 : Int64)) ^^^ (((x0 * (-7046029254386353131 : Int64)).toUInt64 >>> ((29 : Int32).toInt64.toUInt64 &&& Int64.toUInt64 63)).toInt64)) * (-4658895280553007687 : Int64)).toUInt64 >>> ((33 : Int32).toInt64.toUInt64 &&& Int64.toUInt64 63)).toInt64) - (((((x0 * (-7046029254386353131 : Int64)) ^^^ (((x0 * (-7046029254386353131 : Int64)).toUInt64 >>> ((29 : Int32).toInt64.toUInt64 &&& Int64.toUInt64 63)).toInt64)) * (-4658895280553007687 : Int64)).toUInt64 >>> ((33 : Int32).toInt64.toUInt64 &&& Int64.toUInt64 63)).toInt64) / (1000 : Int64) * (1000 : Int64))
theorem w_fate {x0 : Int64} {post : Int64 → Prop} (h : post (fateV x0)) : wp_PairChoice_fate x0 post := by
  unfold wp_PairChoice_fate
  exact ⟨by decide +kernel, h⟩
def dieV (x2 : Int32) (x3 : Int64) (y a : Nat) : Bool := decide (¬ 0 ≤ lg_cmp (fateV (((x3 + ((16 : Int64) * (nI y).toInt64)) + (nI a).toInt64) + (1 : Int64))) x2.toInt64)
theorem w_dies {x2 : Int32} {x3 : Int64} {y a : Nat} {post : Int32 → Prop} (h0 : dieV x2 x3 y a = false → post 0) (h1 : dieV x2 x3 y a = true → post 1) : wp_M_dies (nI y) (nI a) x2 x3 post := by
  unfold wp_M_dies
  intro y1 e
  subst e
  exact ⟨by decide +kernel, fun z => h0 (decide_eq_false (fun w => w z)), fun z => h1 (decide_eq_true z)⟩
/-- who is left of A, those below the bound looked at -/
def surv (P : Nat → Bool) (A : Nat) : Nat → Nat
  | 0 => A
  | a + 1 => if P a = true then dif (surv P A a) (2 ^ a) else surv P A a
theorem surv_bit (P : Nat → Bool) (A i : Nat) : ∀ m, (surv P A m).testBit i = (A.testBit i && !(decide (i < m) && P i)) := by
  intro m
  induction m with
  | zero => simp [surv]
  | succ m ih =>
    rw [surv]
    by_cases e : i = m
    · subst e
      split
      · rename_i h
        rw [dif_bit, ih, tb_pow, h]
        simp
      · rename_i h
        rw [ih]
        simp [h]
    · have hlt : decide (i < m + 1) = decide (i < m) := by
        have : (i < m + 1) ↔ (i < m) := by omega
        simp [this]
      rw [hlt]
      split
      · rw [dif_bit, ih, tb_pow, decide_eq_false (show ¬ m = i from fun z => e z.symm)]
        simp
      · exact ih
theorem surv_lt {P : Nat → Bool} {A n : Nat} (h : A < 2 ^ n) (m : Nat) : surv P A m < 2 ^ n := tb_small (fun i hi => by rw [surv_bit, tb_lt h hi]; rfl)
theorem surv_12 {P : Nat → Bool} {A n : Nat} (h : A < 2 ^ n) (hn : n ≤ 12) : surv P A 12 = surv P A n := by
  refine Nat.eq_of_testBit_eq (fun i => ?_)
  rw [surv_bit, surv_bit]
  rcases Nat.lt_or_ge i n with z | z
  · rw [decide_eq_true (show i < 12 by omega), decide_eq_true z]
  · rw [tb_lt h z]
    rfl
theorem pcn_surv (P : Nat → Bool) (A a : Nat) : pcn (a + 1) (surv P A (a + 1)) = pcn a (surv P A a) + (if (surv P A (a + 1)).testBit a = true then 1 else 0) := by
  rw [pcn, pcn_congr (y := surv P A a) (fun i hi => ?_)]
  rw [surv_bit, surv_bit, decide_eq_true (show i < a + 1 by omega), decide_eq_true hi]
theorem c_surv_a {x2 : Int32} {x3 : Int64} {y A : Nat} {post : Int32 → Prop} (hp : post (nI (surv (dieV x2 x3 y) A 12))) : ∀ q a : Nat, a + q = 12 → wp_PairChoice_survivors_L6 (x3 + ((16 : Int64) * (nI y).toInt64)) x2 post (q + 1) (nI (surv (dieV x2 x3 y) A a)) (nI a) := by
  intro q
  induction q with
  | zero =>
    intro a ha
    rw [wp_PairChoice_survivors_L6]
    refine pk_le 12 a (fun _ => ?_) (fun h => absurd h (by omega))
    rw [show a = 12 by omega]
    exact hp
  | succ q ih =>
    intro a ha
    rw [wp_PairChoice_survivors_L6]
    have ih' := ih (a + 1) (by omega)
    rw [surv] at ih'
    rw [nI_1]
    refine pk_le 12 a (fun h => absurd h (by omega)) (fun _ => w_fate ⟨fun z => ?_, fun z => w_bit (by omega) ?_⟩)
    · have hf : dieV x2 x3 y a = false := decide_eq_false (fun w => w z)
      rw [if_neg (by rw [hf]; decide)] at ih'
      exact ih'
    · have hf : dieV x2 x3 y a = true := decide_eq_true z
      rw [if_pos hf] at ih'
      rw [mk_andn]
      exact ih'
theorem c_surv {x2 : Int32} {x3 : Int64} {y A n : Nat} (hA : A < 2 ^ n) (hn : n ≤ 12) {post : Int32 → Prop} (hp : post (nI (surv (dieV x2 x3 y) A n))) : wp_PairChoice_survivors (nI A) (x3 + ((16 : Int64) * (nI y).toInt64)) x2 post := by
  unfold wp_PairChoice_survivors
  refine ⟨13, c_surv_a ?_ 12 0 (by omega)⟩
  rw [surv_12 hA hn]
  exact hp
/-- who is alive behind year after year -/
def lvS (x2 : Int32) (x3 : Int64) (n : Nat) : Nat → Nat
  | 0 => 2 ^ n - 1
  | y + 1 => surv (dieV x2 x3 y) (lvS x2 x3 n y) n
theorem lvS_lt (x2 : Int32) (x3 : Int64) (n : Nat) : ∀ y, lvS x2 x3 n y < 2 ^ n := by
  intro y
  induction y with
  | zero =>
    rw [lvS]
    have := Nat.two_pow_pos n
    omega
  | succ y ih => exact surv_lt ih n
theorem bc_n {x n : Nat} (hx : x < 2 ^ n) (hn : n ≤ 12) : pcn 12 x = pcn n x := by
  have := pcn_more (m := n) (k := 12 - n) (x := x) (fun i h1 _ => tb_lt hx h1)
  rw [show n + (12 - n) = 12 by omega] at this
  exact this
theorem c_ahead_a {n M k Y : Nat} {wt fm kn br ls : Nat → Int32} {lim mo x2 : Int32} {x3 : Int64} (hn : n ≤ 12) (hMn : M < 2 ^ n) (hk : k ≤ 6) (hk0 : 0 < k) (hY : Y ≤ 20) (hw : ∀ a, a < n → -10000 ≤ wt a ∧ wt a ≤ 10000) {li su tf tm : Nat → Int32} {si kp : Int32} (hL : holdL n wt (laM M fm kn br ls lim mo n k 4096 M) li si su) {post : Int32 → (Nat → Int32) → (Nat → Int32) → Int32 → (Nat → Int32) → Int32 → Int32 → (Nat → Int32) → (Nat → Int32) → (Nat → Int32) → Prop}
    (hp : ∀ oa ob, (∀ i, i < Y → oa i = nI (pcn n (lvS x2 x3 n (i + 1))) ∧ ob i = mxS (fun s => wsm wt s n) ((laM M fm kn br ls lim mo n k 4096 M).filter (fun s => decide (dif s (lvS x2 x3 n (i + 1)) = 0)))) → post (nI (pcn n (lvS x2 x3 n Y))) oa ob (nI Y) li kp si su tf tm) :
    ∀ (q y : Nat) (oa ob : Nat → Int32), y + q = Y → (∀ i, i < y → oa i = nI (pcn n (lvS x2 x3 n (i + 1))) ∧ ob i = mxS (fun s => wsm wt s n) ((laM M fm kn br ls lim mo n k 4096 M).filter (fun s => decide (dif s (lvS x2 x3 n (i + 1)) = 0)))) → wp_PairChoice_ahead_L61 (nI Y) x2 x3 li kp si su tf tm post (q + 1) (nI (lvS x2 x3 n y)) (nI y) oa ob := by
  have hll := la_len (M := M) (fm := fm) (kn := kn) (br := br) (ls := ls) (lim := lim) (mo := mo) hn hMn hk hk0
  have h4 : ∀ s, s ∈ laM M fm kn br ls lim mo n k 4096 M → s < 4096 := fun s h => s4096 ((la_mem hn hMn hk0).1 h).1 hn
  intro q
  induction q with
  | zero =>
    intro y oa ob hy hI
    rw [wp_PairChoice_ahead_L61]
    rw [show y = Y by omega] at hI ⊢
    refine pk_le Y Y (fun _ => w_bc (s4096 (lvS_lt x2 x3 n Y) hn) ?_) (fun h => absurd h (by omega))
    rw [bc_n (lvS_lt x2 x3 n Y) hn]
    exact hp oa ob hI
  | succ q ih =>
    intro y oa ob hy hI
    rw [wp_PairChoice_ahead_L61]
    have h1 := lvS_lt x2 x3 n (y + 1)
    have h12 := s4096 h1 hn
    refine pk_le Y y (fun h => absurd h (by omega)) (fun _ => c_surv (lvS_lt x2 x3 n y) hn ?_)
    show wp_Integer_bitCount (nI (lvS x2 x3 n (y + 1))) _
    refine w_bc h12 (u_among hL hll (Nat.lt_trans h12 (by decide)) h4 (big_wsm hn hw _) ?_)
    rw [bc_n h1 hn]
    refine ⟨vp_in_nI (by omega) (by decide), vp_in_nI (by omega) (by decide), ?_⟩
    rw [nI_1, nI_clamp (n := y) (by omega)]
    refine ih (y + 1) _ _ (by omega) (fun i hi => ?_)
    by_cases e : i = y
    · subst e
      rw [pk_us, pk_us]
      exact ⟨rfl, rfl⟩
    · rw [pk_un e, pk_un e]
      exact hI i (by omega)
theorem m_ahead_a {n M k y A : Nat} {sx wt fm kn br ls ys yw f0 m0 now0 th0 : Nat → Int32} {lim mo td tb x2 b0 bw0 mn0 st0 : Int32} {x3 : Int64} (hn : n ≤ 12) (hM : ∀ a, a < n → (sx a = 0 ↔ M.testBit a = true)) (hMn : M < 2 ^ n) (hk : k ≤ 6) (hk0 : 0 < k) (hy : y < 20) (hA : A < 2 ^ n) {w0 : Nat → Int32}
    {post : Int32 → (Nat → Int32) → Int32 → Int32 → (Nat → Int32) → (Nat → Int32) → Int32 → (Nat → Int32) → Int32 → (Nat → Int32) → (Nat → Int32) → (Nat → Int32) → Int32 → Prop} {K : Int32 → Int32 → (Nat → Int32) → Int32 → Int32 → (Nat → Int32) → (Nat → Int32) → Int32 → (Nat → Int32) → Int32 → (Nat → Int32) → (Nat → Int32) → (Nat → Int32) → Prop}
    (hK : ∀ w b f m mn now st th, w y = nI (pcn n (surv (dieV x2 x3 y) A n)) → (∀ i, ¬ i = y → w i = w0 i) → K (nI (surv (dieV x2 x3 y) A n)) (nI (y + 1)) w b (((bst (fun s => wsT wt td tb s n) (lsS M fm kn br ls lim mo n k (surv (dieV x2 x3 y) A n) (2 ^ n))).map (fun s => wsT wt td tb s n)).getD 0) f m mn now st th (upd ys y (if lsS M fm kn br ls lim mo n k (surv (dieV x2 x3 y) A n) (2 ^ n) = [] then 0 else 1)) (upd yw y (((bst (fun s => wsT wt td tb s n) (lsS M fm kn br ls lim mo n k (surv (dieV x2 x3 y) A n) (2 ^ n))).map (fun s => wsT wt td tb s n)).getD 0))) :
    ∀ (q a : Nat) (w : Nat → Int32), a + q = n → w y = nI (pcn a (surv (dieV x2 x3 y) A a)) → (∀ i, ¬ i = y → w i = w0 i) → wp_M_ahead_L69 (nI n) fm br kn ls lim mo sx td tb wt x2 x3 (nI k) (nI y) b0 bw0 f0 m0 mn0 now0 st0 th0 ys yw post K (q + 1) (nI (surv (dieV x2 x3 y) A a)) (nI a) w := by
  intro q
  induction q with
  | zero =>
    intro a w ha h1 h2
    rw [wp_M_ahead_L69]
    rw [show a = n by omega] at h1 ⊢
    refine pk_le n n (fun _ => w_find hn hM hMn hk hk0 (fun f m mn now th => ?_)) (fun h => absurd h (by omega))
    rw [nI_1, nI_clamp (n := y) (by omega)]
    by_cases e : lsS M fm kn br ls lim mo n k (surv (dieV x2 x3 y) A n) (2 ^ n) = []
    · have hK' := fun b => hK w b f m mn now (nI (lsS M fm kn br ls lim mo n k (surv (dieV x2 x3 y) A n) (2 ^ n)).length) th h1 h2
      simp only [if_pos e] at hK'
      rw [if_pos e]
      exact e0 ⟨vp_in_nI (by omega) (by decide), vp_in_nI (by omega) (by decide), hK' _⟩
    · have hK' := fun b => hK w b f m mn now (nI (lsS M fm kn br ls lim mo n k (surv (dieV x2 x3 y) A n) (2 ^ n)).length) th h1 h2
      simp only [if_neg e] at hK'
      rw [if_neg e]
      exact e1 ⟨vp_in_nI (by omega) (by decide), vp_in_nI (by omega) (by decide), hK' _⟩
  | succ q ih =>
    intro a w ha h1 h2
    rw [wp_M_ahead_L69]
    have hlt := surv_lt (P := dieV x2 x3 y) hA (a + 1)
    have h12 := s4096 hlt hn
    have step : ∀ w' : Nat → Int32, w' = upd w y (w y + ((nI (surv (dieV x2 x3 y) A (a + 1)) >>> (nI a &&& 31)) &&& 1)) → wp_M_ahead_L69 (nI n) fm br kn ls lim mo sx td tb wt x2 x3 (nI k) (nI y) b0 bw0 f0 m0 mn0 now0 st0 th0 ys yw post K (q + 1) (nI (surv (dieV x2 x3 y) A (a + 1))) (nI (a + 1)) w' := by
      rintro w' rfl
      refine ih (a + 1) _ (by omega) ?_ (fun i hi => by rw [pk_un hi]; exact h2 i hi)
      rw [pk_us, h1, mk_has (by omega) (by omega), pcn_surv]
      split
      · rw [nI_1]
      · rw [Nat.add_zero]
        exact Int32.add_zero _
    rw [nI_1, nI_1, nI_clamp (n := y) (by omega), mk_bit (by omega), mk_andn]
    refine pk_le n a (fun h => absurd h (by omega)) (fun _ => w_dies (fun hd => ?_) (fun hd => ?_))
    · rw [surv, if_neg (by rw [hd]; decide)] at step
      exact e0 ⟨vp_in_nI (by omega) (by decide), vp_in_nI (by omega) (by decide), step _ rfl⟩
    · rw [surv, if_pos hd] at step
      exact e1 ⟨vp_in_nI (by omega) (by decide), vp_in_nI (by omega) (by decide), step _ rfl⟩
theorem m_ahead_y {n M k Y : Nat} {sx wt fm kn br ls : Nat → Int32} {lim mo td tb x2 : Int32} {x3 : Int64} (hn : n ≤ 12) (hM : ∀ a, a < n → (sx a = 0 ↔ M.testBit a = true)) (hMn : M < 2 ^ n) (hk : k ≤ 6) (hk0 : 0 < k) (hY0 : 0 < Y) (hY : Y ≤ 20)
    {post : Int32 → (Nat → Int32) → Int32 → Int32 → (Nat → Int32) → (Nat → Int32) → Int32 → (Nat → Int32) → Int32 → (Nat → Int32) → (Nat → Int32) → (Nat → Int32) → Int32 → Prop}
    (hp : ∀ al b bw f m mn now st th ys yw, (∀ i, i < Y → al i = nI (pcn n (lvS x2 x3 n (i + 1))) ∧ ys i = (if lsS M fm kn br ls lim mo n k (lvS x2 x3 n (i + 1)) (2 ^ n) = [] then 0 else 1) ∧ yw i = ((bst (fun s => wsT wt td tb s n) (lsS M fm kn br ls lim mo n k (lvS x2 x3 n (i + 1)) (2 ^ n))).map (fun s => wsT wt td tb s n)).getD 0) → post (nI (pcn n (lvS x2 x3 n Y))) al b bw f m mn now st th ys yw (nI Y)) :
    ∀ (q y : Nat) (al : Nat → Int32) (b bw : Int32) (f m : Nat → Int32) (mn : Int32) (now : Nat → Int32) (st : Int32) (th ys yw : Nat → Int32), y + q = Y → (∀ i, i < y → al i = nI (pcn n (lvS x2 x3 n (i + 1))) ∧ ys i = (if lsS M fm kn br ls lim mo n k (lvS x2 x3 n (i + 1)) (2 ^ n) = [] then 0 else 1) ∧ yw i = ((bst (fun s => wsT wt td tb s n) (lsS M fm kn br ls lim mo n k (lvS x2 x3 n (i + 1)) (2 ^ n))).map (fun s => wsT wt td tb s n)).getD 0) → wp_M_ahead_L49 (nI n) fm br kn ls lim mo sx td tb wt (nI Y) x2 x3 (nI k) post (q + 1) (nI (lvS x2 x3 n y)) (nI y) al b bw f m mn now st th ys yw := by
  intro q
  induction q with
  | zero =>
    intro y al b bw f m mn now st th ys yw hy hI
    rw [wp_M_ahead_L49]
    rw [show y = Y by omega] at hI ⊢
    have e1 : nI Y - 1 = nI (Y - 1) := by
      have h := nI_1 (Y - 1)
      rw [show Y - 1 + 1 = Y by omega] at h
      rw [← h]
      exact Int32.add_sub_cancel _ _
    rw [e1, nI_clamp (n := Y - 1) (by omega)]
    refine pk_le Y Y (fun _ => ⟨vp_in_nI (by omega) (by decide), ?_⟩) (fun h => absurd h (by omega))
    have h := (hI (Y - 1) (by omega)).1
    rw [show Y - 1 + 1 = Y by omega] at h
    rw [h]
    exact hp al b bw f m mn now st th ys yw hI
  | succ q ih =>
    intro y al b bw f m mn now st th ys yw hy hI
    rw [wp_M_ahead_L49, nI_clamp (n := y) (by omega)]
    refine pk_le Y y (fun h => absurd h (by omega)) (fun _ => ⟨vp_in_nI (by omega) (by decide), n + 1, ?_⟩)
    refine m_ahead_a hn hM hMn hk hk0 (by omega) (lvS_lt x2 x3 n y) (w0 := al) (fun w b' f' m' mn' now' st' th' h1 h2 => ?_) n 0 _ (by omega) (by rw [pk_us]; rfl) (fun i hi => pk_un hi)
    refine ih (y + 1) w b' _ f' m' mn' now' st' th' _ _ (by omega) (fun i hi => ?_)
    by_cases e : i = y
    · subst e
      rw [pk_us, pk_us]
      exact ⟨h1, rfl, rfl⟩
    · rw [pk_un e, pk_un e, h2 i e]
      exact hI i (by omega)
theorem ou_rel {n M k A : Nat} {wt fm kn br ls : Nat → Int32} {lim mo tb : Int32} (hn : n ≤ 12) (hMn : M < 2 ^ n) (hk0 : 0 < k) (hw : ∀ a, a < n → -10000 ≤ wt a ∧ wt a ≤ 10000) {o : Int32} (ho : o = mxS (fun s => wsm wt s n) ((laM M fm kn br ls lim mo n k 4096 M).filter (fun s => decide (dif s A = 0)))) :
    (if lsS M fm kn br ls lim mo n k A (2 ^ n) = [] then (0 : Int32) else 1) = (if o = (-100000000) then 0 else 1) ∧ ((bst (fun s => wsT wt (-1) tb s n) (lsS M fm kn br ls lim mo n k A (2 ^ n))).map (fun s => wsT wt (-1) tb s n)).getD 0 = (if o = (-100000000) then 0 else o) := by
  have hsame : bst (fun s => wsm wt s n) ((laM M fm kn br ls lim mo n k 4096 M).filter (fun s => decide (dif s A = 0))) = bst (fun s => wsm wt s n) (lsS M fm kn br ls lim mo n k A (2 ^ n)) := bst_same (fun s h => s4096 ((la_mem hn hMn hk0).1 (List.mem_filter.1 h).1).1 hn) (fun s => la_ls hn hMn hk0)
  rw [wsT_fun wt tb hn]
  unfold mxS at ho
  rw [hsame] at ho
  cases e : bst (fun s => wsm wt s n) (lsS M fm kn br ls lim mo n k A (2 ^ n)) with
  | none =>
    rw [e] at ho
    have ho' : o = -100000000 := ho
    rw [if_pos (bst_none.1 e), if_pos ho', if_pos ho']
    exact ⟨rfl, rfl⟩
  | some b =>
    rw [e] at ho
    have ho' : o = wsm wt b n := ho
    have hne : ¬ o = -100000000 := by
      have : (-100000000 : Int32) < wsm wt b n := big_wsm hn hw [b] b (List.mem_singleton.2 rfl)
      intro z
      rw [← ho', z] at this
      exact absurd this (by decide)
    rw [if_neg (fun z => by rw [z] at e; cases e), if_neg hne, if_neg hne]
    exact ⟨rfl, ho'.symm⟩
theorem yr_of {x : Int32} (h : 1 ≤ x ∧ x ≤ 20) : ∃ k, 0 < k ∧ k ≤ 20 ∧ x = nI k := by
  have h1 := h.1
  rw [Int32.le_iff_toInt_le, show (1 : Int32).toInt = 1 from rfl] at h1
  obtain ⟨k, hk, rfl⟩ := nI_of2 (x := x) (M := 20) (n := 20) rfl (by rw [Int32.lt_iff_toInt_lt, show (0 : Int32).toInt = 0 from rfl]; omega) h.2
  rw [nI_toInt (by omega)] at h1
  exact ⟨k, by omega, hk, rfl⟩
set_option maxHeartbeats 4000000 in
theorem pu_ahead {hb : (Nat → Int32)} {hc : Int32} {hf : (Nat → Int32)} {hl : Int32} {hk : (Nat → Nat → Int32)} {ht : (Nat → Int32)} {hm he : Int32} {hw sl : (Nat → Int32)} {sp ss : Int32} {su ce cf cm : (Nat → Int32)} {cp cs cn : Int32} {oa ob : (Nat → Int32)} {oy : Int32} {tf tm : (Nat → Int32)} {m_animals : Int32} {m_sexes m_worths m_families m_kins m_isBarred : (Nat → Int32)} {m_limit m_most : Int32} {m_leasts : (Nat → Int32)} {m_tested m_pairs m_choice m_choiceSets : Int32} {m_he m_she m_eggs : (Nat → Int32)} {m_years : Int32} {m_alive m_yearSets m_yearWorths : (Nat → Int32)} {m_best m_bestWorth : Int32} {m_females m_males : (Nat → Int32)} {m_many : Int32} {m_now : (Nat → Int32)} {m_sets m_testedBy : Int32} {m_then : (Nat → Int32)} (R : RR hb hc hf hl hk ht hm he hw sl sp ss su ce cf cm cp cs cn oa ob oy m_animals m_sexes m_worths m_families m_kins m_isBarred m_limit m_most m_leasts m_tested m_pairs m_choice m_choiceSets m_he m_she m_eggs m_years m_alive m_yearSets m_yearWorths) (x1 : Int32) (x2 : Int32) (x3 : Int64) (x5 : Int32) : wp_PairChoice_ahead hb hc hf hl hk ht hm he hw oa ob oy sl sp ss su tf tm x1 x2 x3 x5 (fun r oa' ob' oy' sl' sp' ss' su' tf' tm' => wp_M_ahead m_alive m_animals m_best m_bestWorth m_families m_females m_isBarred m_kins m_leasts m_limit m_males m_many m_most m_now m_sets m_sexes m_tested m_testedBy m_then m_worths m_yearSets m_yearWorths m_years x1 x2 x3 x5 (fun r' m_alive' m_best' m_bestWorth' m_females' m_males' m_many' m_now' m_sets' m_then' m_yearSets' m_yearWorths' m_years' => r = r' ∧ RR hb hc hf hl hk ht hm he hw sl' sp' ss' su' ce cf cm cp cs cn oa' ob' oy' m_animals m_sexes m_worths m_families m_kins m_isBarred m_limit m_most m_leasts m_tested m_pairs m_choice m_choiceSets m_he m_she m_eggs m_years' m_alive' m_yearSets' m_yearWorths')) := by
  obtain ⟨n, M, rfl, rfl, rfl, rfl, rfl, rfl, rfl, hH, hL, hC, hO, rfl⟩ := id R
  obtain ⟨hn, hMn, _⟩ := id hH.1
  have hM := hH.2.1
  have hwt := hH.2.2.2.2.2.2.2
  unfold wp_PairChoice_ahead wp_M_ahead
  by_cases r1 : 1 ≤ x1 ∧ x1 ≤ 20
  · by_cases r2 : 0 ≤ x2 ∧ x2 ≤ 1000
    · by_cases r3 : 1 ≤ x5 ∧ x5 ≤ 6
      · obtain ⟨k, hk0, hk, rfl⟩ := np_of r3
        obtain ⟨Y, hY0, hY, rfl⟩ := yr_of r1
        refine w_w1 r1 (e1 (w_w1 r2 (e1 (w_np1 r3 (n1 (u_listAll hH.1 hk hk0 hL (fun li si su' tf' tm' hh => w_hall hn ?_)))))))
        refine ⟨Y + 1, c_ahead_a hn hMn hk hk0 hY hwt hh (fun oa' ob' hI => ?_) Y 0 oa ob (by omega) (fun i hi => by omega)⟩
        refine w_i1 r1 (e1 (w_i1 r2 (e1 (w_i1 r3 (n1 (w_all hn ?_))))))
        refine ⟨Y + 1, m_ahead_y hn hM hMn hk hk0 hY0 hY (fun al b bw f m mn now st th ys yw hJ => ?_) Y 0 m_alive m_best m_bestWorth m_females m_males m_many m_now m_sets m_then m_yearSets m_yearWorths (by omega) (fun i hi => by omega)⟩
        refine ⟨rfl, n, M, rfl, rfl, rfl, rfl, rfl, rfl, rfl, hH, Or.inr ⟨k, hk0, hk, rfl, hh⟩, hC, ⟨Y, hY, rfl, rfl, fun i hi => ?_⟩, rfl⟩
        obtain ⟨a1, a2⟩ := hI i hi
        obtain ⟨b1, b2, b3⟩ := hJ i hi
        have hr := ou_rel (tb := m_testedBy) hn hMn hk0 hwt a2
        rw [a1, b1, b2, b3]
        exact ⟨rfl, hr.1, hr.2⟩
      · exact w_w1 r1 (e1 (w_w1 r2 (e1 (w_np0 r3 (n0 (w_i1 r1 (e1 (w_i1 r2 (e1 (w_i0 r3 (n0 ⟨rfl, R⟩)))))))))))
    · exact w_w1 r1 (e1 (w_w0 r2 (e0 (w_i1 r1 (e1 (w_i0 r2 (e0 ⟨rfl, R⟩)))))))
  · exact w_w0 r1 (e0 (w_i0 r1 (e0 ⟨rfl, R⟩)))
