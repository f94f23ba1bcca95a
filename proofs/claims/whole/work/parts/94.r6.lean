/-! the list when it is asked for; bounds; test -/
theorem a32 {x y : Int32} (h1 : -2147483648 ≤ x.toInt + y.toInt) (h2 : x.toInt + y.toInt < 2147483648) : (x + y).toInt = x.toInt + y.toInt := by
  rw [Int32.toInt_add]
  exact Int.bmod_eq_of_le (by omega) (by omega)
theorem w_np1 {k : Int32} {post : Int32 → Prop} (h : 1 ≤ k ∧ k ≤ 6) (hp : post 1) : wp_PairChoice_isNumberOfPairs k post := w_w1 h hp
theorem w_np0 {k : Int32} {post : Int32 → Prop} (h : ¬ (1 ≤ k ∧ k ≤ 6)) (hp : post 0) : wp_PairChoice_isNumberOfPairs k post := w_w0 h hp
theorem np_of {x : Int32} (h : 1 ≤ x ∧ x ≤ 6) : ∃ k, 0 < k ∧ k ≤ 6 ∧ x = nI k := by
  have h1 := h.1
  rw [Int32.le_iff_toInt_le, show (1 : Int32).toInt = 1 from rfl] at h1
  obtain ⟨k, hk, rfl⟩ := nI_of2 (x := x) (M := 6) (n := 6) rfl (by rw [Int32.lt_iff_toInt_lt, show (0 : Int32).toInt = 0 from rfl]; omega) h.2
  rw [nI_toInt (by omega)] at h1
  exact ⟨k, by omega, hk, rfl⟩
theorem u_listAll {n M : Nat} {cb cf : Nat → Int32} {kg : Nat → Nat → Int32} {mo lim : Int32} {fm kn br ls wt : Nat → Int32} (H : HR n M cb cf kg mo fm kn br) {k : Nat} (hk : k ≤ 6) (hk0 : 0 < k) {sl su tf tm : Nat → Int32} {sp ss : Int32} (hL : RLs n M fm kn br ls wt lim mo sl sp ss su) {post : (Nat → Int32) → Int32 → Int32 → (Nat → Int32) → (Nat → Int32) → (Nat → Int32) → Prop}
    (hp : ∀ li si su tf tm, holdL n wt (laM M fm kn br ls lim mo n k 4096 M) li si su → post li (nI k) si su tf tm) : wp_SetList_listAll cb (nI n) cf lim kg ls (nI M) mo wt sl sp ss su tf tm (nI k) post := by
  unfold wp_SetList_listAll
  have h12 : 2 ^ n ≤ 2 ^ 12 := Nat.pow_le_pow_right (by decide) H.1
  have hM := H.2.1
  have fresh : ∃ n27, wp_SetList_listAll_L27 cb (nI n) cf lim kg ls (nI M) mo wt (nI k) post n27 (nI M) sl 0 su tf tm := by
    refine ⟨4096, u_listAll_a H hk 4096 M [] sl su tf tm 0 (by omega) hM (Nat.and_self _) ⟨by rw [← nI_0]; rfl, fun j a h => by cases h⟩ ?_ (fun li si su tf tm h => hp li si su tf tm ?_)⟩
    · rw [List.nil_append]
      exact la_len H.1 hM hk hk0
    · rw [List.nil_append] at h
      exact h
  rcases hL with rfl | ⟨k', h0, h6, rfl, hh⟩
  · exact p0 (nI_ne0 hk0 (by omega)) fresh
  · by_cases e : k = k'
    · subst e
      exact p1 rfl (hp sl ss su tf tm hh)
    · exact p0 (fun z => e ((nI_eq (by omega) (by omega)).1 z)) fresh
theorem wsm_bd {wt : Nat → Int32} {n s : Nat} (hn : n ≤ 12) (hw : ∀ a, a < n → -10000 ≤ wt a ∧ wt a ≤ 10000) : ∀ m, m ≤ n → -10000 * (m : Int) ≤ (wsm wt s m).toInt ∧ (wsm wt s m).toInt ≤ 10000 * (m : Int) := by
  intro m
  induction m with
  | zero =>
    intro _
    rw [wsm]
    decide
  | succ m ih =>
    intro hm
    have ih' := ih (by omega)
    have hwm := hw m (by omega)
    rw [Int32.le_iff_toInt_le, Int32.le_iff_toInt_le, show (-10000 : Int32).toInt = -10000 from by decide, show (10000 : Int32).toInt = 10000 from by decide] at hwm
    rw [wsm]
    split
    · rw [a32 (by omega) (by omega)]
      omega
    · omega
theorem wsT_bd {wt : Nat → Int32} {n s a : Nat} {d : Int32} (hn : n ≤ 12) (hw : ∀ a, a < n → -10000 ≤ wt a ∧ wt a ≤ 10000) (ha : a < n) (hd : -10000 ≤ d.toInt ∧ d.toInt ≤ 10000) : -130000 ≤ (wsT wt (nI a) d s n).toInt ∧ (wsT wt (nI a) d s n).toInt ≤ 130000 := by
  have hb := wsm_bd (s := s) hn hw n (Nat.le_refl _)
  rw [wsT_eq (by omega) n (by omega)]
  have hz : (0 : Int32).toInt = 0 := rfl
  split
  · rw [a32 (by omega) (by omega)]
    omega
  · rw [a32 (by omega) (by omega), hz]
    omega
theorem big_wsm {wt : Nat → Int32} {n : Nat} (hn : n ≤ 12) (hw : ∀ a, a < n → -10000 ≤ wt a ∧ wt a ≤ 10000) (l : List Nat) : bigS (fun s => wsm wt s n) l := fun s _ => by
  have hb := wsm_bd (s := s) hn hw n (Nat.le_refl _)
  show (-100000000 : Int32) < wsm wt s n
  rw [Int32.lt_iff_toInt_lt, show (-100000000 : Int32).toInt = -100000000 from by decide]
  omega
theorem big_wsT {wt : Nat → Int32} {n a : Nat} {d : Int32} (hn : n ≤ 12) (hw : ∀ a, a < n → -10000 ≤ wt a ∧ wt a ≤ 10000) (ha : a < n) (hd : -10000 ≤ d.toInt ∧ d.toInt ≤ 10000) (l : List Nat) : bigS (fun s => wsT wt (nI a) d s n) l := fun s _ => by
  have hb := wsT_bd (s := s) hn hw ha hd
  show (-100000000 : Int32) < wsT wt (nI a) d s n
  rw [Int32.lt_iff_toInt_lt, show (-100000000 : Int32).toInt = -100000000 from by decide]
  omega
/-- the animal with the greatest sum, of several the least -/
def tS (sm : Nat → Int32) : Nat → Nat
  | 0 => 0
  | a + 1 => if a = 0 ∨ sm (tS sm a) < sm a then a else tS sm a
/-- the greatest worth is the reference's -/
theorem mx_best {n M k : Nat} (hn : n ≤ 12) (hMn : M < 2 ^ n) (hk0 : 0 < k) {mo lim : Int32} {fm kn br ls : Nat → Int32} (ws : Nat → Int32) : bst ws (laM M fm kn br ls lim mo n k 4096 M) = bst ws (lsS M fm kn br ls lim mo n k (2 ^ n - 1) (2 ^ n)) :=
  bst_same (fun s h => s4096 ((la_mem hn hMn hk0).1 h).1 hn) (fun s => la_ls_all hn hMn hk0)
theorem mx_val {ws : Nat → Int32} {l : List Nat} (h : ¬ l = []) : ∃ b, bst ws l = some b := by
  cases e : bst ws l with
  | none => exact absurd (bst_none.1 e) h
  | some b => exact ⟨b, rfl⟩
def smS (M : Nat) (fm kn br ls wt : Nat → Int32) (lim mo : Int32) (n k : Nat) (d : Int32) (a : Nat) : Int32 := mxS (fun s => wsT wt (nI a) d s n) (laM M fm kn br ls lim mo n k 4096 M) + mxS (fun s => wsT wt (nI a) (-d) s n) (laM M fm kn br ls lim mo n k 4096 M)
theorem neg_bd {d : Int32} (h : 1 ≤ d ∧ d ≤ 10000) : (-10000 ≤ d.toInt ∧ d.toInt ≤ 10000) ∧ (-10000 ≤ (-d).toInt ∧ (-d).toInt ≤ 10000) := by
  have h1 := h.1
  have h2 := h.2
  rw [Int32.le_iff_toInt_le, show (1 : Int32).toInt = 1 from rfl] at h1
  rw [Int32.le_iff_toInt_le, show (10000 : Int32).toInt = 10000 from by decide] at h2
  refine ⟨by omega, ?_⟩
  rw [Int32.toInt_neg, Int.bmod_eq_of_le (by omega) (by omega)]
  omega
theorem smS_bd {M n k : Nat} {fm kn br ls wt : Nat → Int32} {lim mo d : Int32} (hn : n ≤ 12) (hw : ∀ a, a < n → -10000 ≤ wt a ∧ wt a ≤ 10000) (hd : 1 ≤ d ∧ d ≤ 10000) (hl : ¬ laM M fm kn br ls lim mo n k 4096 M = []) {a : Nat} (ha : a < n) : ¬ smS M fm kn br ls wt lim mo n k d a ≤ -100000000 := by
  obtain ⟨d1, d2⟩ := neg_bd hd
  obtain ⟨b1, e1⟩ := mx_val (ws := fun s => wsT wt (nI a) d s n) hl
  obtain ⟨b2, e2⟩ := mx_val (ws := fun s => wsT wt (nI a) (-d) s n) hl
  have g1 := wsT_bd (s := b1) hn hw ha d1
  have g2 := wsT_bd (s := b2) hn hw ha d2
  have m1 : mxS (fun s => wsT wt (nI a) d s n) (laM M fm kn br ls lim mo n k 4096 M) = wsT wt (nI a) d b1 n := by unfold mxS; rw [e1]; rfl
  have m2 : mxS (fun s => wsT wt (nI a) (-d) s n) (laM M fm kn br ls lim mo n k 4096 M) = wsT wt (nI a) (-d) b2 n := by unfold mxS; rw [e2]; rfl
  unfold smS
  rw [m1, m2, Int32.le_iff_toInt_le, a32 (by omega) (by omega), show (-100000000 : Int32).toInt = -100000000 from by decide]
  omega
theorem c_test_a {M n k : Nat} {fm kn br ls wt : Nat → Int32} {lim mo d : Int32} (hn : n ≤ 12) (hMn : M < 2 ^ n) (hk : k ≤ 6) (hk0 : 0 < k) (hw : ∀ a, a < n → -10000 ≤ wt a ∧ wt a ≤ 10000) (hd : 1 ≤ d ∧ d ≤ 10000) (hl : ¬ laM M fm kn br ls lim mo n k 4096 M = []) {li su tf tm : Nat → Int32} {si kp : Int32} (hL : holdL n wt (laM M fm kn br ls lim mo n k 4096 M) li si su) {post : Int32 → (Nat → Int32) → Int32 → Int32 → (Nat → Int32) → (Nat → Int32) → (Nat → Int32) → Prop} (hp : post (nI (tS (smS M fm kn br ls wt lim mo n k d) n)) li kp si su tf tm) :
    ∀ q a : Nat, a + q = n → wp_PairChoice_test_L51 (nI n) d li kp si su tf tm post (q + 1) (nI (tS (smS M fm kn br ls wt lim mo n k d) a)) (if a = 0 then -100000000 else smS M fm kn br ls wt lim mo n k d (tS (smS M fm kn br ls wt lim mo n k d) a)) (nI a) := by
  obtain ⟨d1, d2⟩ := neg_bd hd
  have hll := la_len (M := M) (fm := fm) (kn := kn) (br := br) (ls := ls) (lim := lim) (mo := mo) hn hMn hk hk0
  have h4 : ∀ s, s ∈ laM M fm kn br ls lim mo n k 4096 M → s < 4096 := fun s h => s4096 ((la_mem hn hMn hk0).1 h).1 hn
  intro q
  induction q with
  | zero =>
    intro a ha
    rw [wp_PairChoice_test_L51]
    refine pk_le n a (fun _ => ?_) (fun h => absurd h (by omega))
    rw [show a = n by omega]
    exact hp
  | succ q ih =>
    intro a ha
    rw [wp_PairChoice_test_L51]
    refine pk_le n a (fun h => absurd h (by omega)) (fun _ => ?_)
    have ih' := ih (a + 1) (by omega)
    rw [nI_1]
    refine u_with hL hll (by omega) hn h4 (big_wsT hn hw (by omega) d1 _) (u_with hL hll (by omega) hn h4 (big_wsT hn hw (by omega) d2 _) ?_)
    rw [if_neg (by omega), tS] at ih'
    by_cases e : a = 0
    · rw [if_pos (Or.inl e)] at ih'
      rw [if_pos e]
      exact ⟨fun z => absurd z (smS_bd hn hw hd hl (by omega)), fun _ => ih'⟩
    · rw [if_neg e]
      refine ⟨fun z => ?_, fun z => ?_⟩
      · have z' : smS M fm kn br ls wt lim mo n k d a ≤ smS M fm kn br ls wt lim mo n k d (tS (smS M fm kn br ls wt lim mo n k d) a) := z
        rw [if_neg (fun w => w.elim e (fun w => by rw [Int32.le_iff_toInt_le] at z'; rw [Int32.lt_iff_toInt_lt] at w; omega))] at ih'
        exact ih'
      · have z' : ¬ smS M fm kn br ls wt lim mo n k d a ≤ smS M fm kn br ls wt lim mo n k d (tS (smS M fm kn br ls wt lim mo n k d) a) := z
        rw [if_pos (Or.inr (by rw [Int32.le_iff_toInt_le] at z'; rw [Int32.lt_iff_toInt_lt]; omega))] at ih'
        exact ih'
theorem m_test_a {M n k : Nat} {fm kn br ls wt sx : Nat → Int32} {lim mo d : Int32} (hn : n ≤ 12) (hMn : M < 2 ^ n) (hM : ∀ a, a < n → (sx a = 0 ↔ M.testBit a = true)) (hk : k ≤ 6) (hk0 : 0 < k) (hl : ¬ laM M fm kn br ls lim mo n k 4096 M = []) {post : Int32 → Int32 → Int32 → (Nat → Int32) → (Nat → Int32) → Int32 → (Nat → Int32) → Int32 → Int32 → Int32 → (Nat → Int32) → Prop} (hp : ∀ b bw f m mn now st tb th, post (nI (tS (smS M fm kn br ls wt lim mo n k d) n)) b bw f m mn now st (-1) tb th) :
    ∀ (q a : Nat) (b bw : Int32) (f m : Nat → Int32) (mn : Int32) (now : Nat → Int32) (st td tb : Int32) (th : Nat → Int32), a + q = n → wp_M_test_L47 (nI n) fm br kn ls lim mo sx wt (nI k) d post (q + 1) (nI (tS (smS M fm kn br ls wt lim mo n k d) a)) (if a = 0 then 0 else smS M fm kn br ls wt lim mo n k d (tS (smS M fm kn br ls wt lim mo n k d) a)) (nI a) b bw f m mn now st td tb th := by
  intro q
  induction q with
  | zero =>
    intro a b bw f m mn now st td tb th ha
    rw [wp_M_test_L47]
    refine pk_le n a (fun _ => ?_) (fun h => absurd h (by omega))
    rw [show a = n by omega]
    exact hp _ _ _ _ _ _ _ _ _
  | succ q ih =>
    intro a b bw f m mn now st td tb th ha
    rw [wp_M_test_L47]
    refine pk_le n a (fun h => absurd h (by omega)) (fun _ => ?_)
    have ih' := fun b bw f m mn now st td tb th => ih (a + 1) b bw f m mn now st td tb th (by omega)
    rw [nI_1]
    refine w_all hn (w_find hn hM hMn hk hk0 (fun f1 m1 mn1 now1 th1 => w_all hn (w_find hn hM hMn hk hk0 (fun f2 m2 mn2 now2 th2 => ?_))))
    rw [← mx_best hn hMn hk0, ← mx_best hn hMn hk0]
    obtain ⟨c1, g1⟩ := mx_val (ws := fun s => wsT wt (nI a) d s n) hl
    obtain ⟨c2, g2⟩ := mx_val (ws := fun s => wsT wt (nI a) (-d) s n) hl
    have es : ((bst (fun s => wsT wt (nI a) d s n) (laM M fm kn br ls lim mo n k 4096 M)).map (fun s => wsT wt (nI a) d s n)).getD 0 + ((bst (fun s => wsT wt (nI a) (-d) s n) (laM M fm kn br ls lim mo n k 4096 M)).map (fun s => wsT wt (nI a) (-d) s n)).getD 0 = smS M fm kn br ls wt lim mo n k d a := by
      unfold smS mxS
      rw [g1, g2]
      rfl
    rw [es]
    simp only [if_neg (show ¬ a + 1 = 0 by omega), tS] at ih'
    by_cases e : a = 0
    · simp only [if_pos (Or.inl e : a = 0 ∨ smS M fm kn br ls wt lim mo n k d (tS (smS M fm kn br ls wt lim mo n k d) a) < smS M fm kn br ls wt lim mo n k d a)] at ih'
      refine ⟨fun _ => ih' _ _ _ _ _ _ _ _ _ _, fun z => absurd (by rw [e, nI_0]) z⟩
    · refine ⟨fun z => absurd ((mk_z (by omega)).1 z) e, fun _ => ⟨fun z => ?_, fun z => ?_⟩⟩
      · rw [if_neg e] at z
        simp only [if_neg (show ¬ (a = 0 ∨ smS M fm kn br ls wt lim mo n k d (tS (smS M fm kn br ls wt lim mo n k d) a) < smS M fm kn br ls wt lim mo n k d a) from fun w => w.elim e (fun w => by rw [Int32.le_iff_toInt_le] at z; rw [Int32.lt_iff_toInt_lt] at w; omega))] at ih'
        rw [if_neg e]
        exact ih' _ _ _ _ _ _ _ _ _ _
      · rw [if_neg e] at z
        simp only [if_pos (show (a = 0 ∨ smS M fm kn br ls wt lim mo n k d (tS (smS M fm kn br ls wt lim mo n k d) a) < smS M fm kn br ls wt lim mo n k d a) from Or.inr (by rw [Int32.le_iff_toInt_le] at z; rw [Int32.lt_iff_toInt_lt]; omega))] at ih'
        exact ih' _ _ _ _ _ _ _ _ _ _
theorem la_nil {n M k : Nat} (hn : n ≤ 12) (hMn : M < 2 ^ n) (hk0 : 0 < k) {mo lim : Int32} {fm kn br ls : Nat → Int32} : laM M fm kn br ls lim mo n k 4096 M = [] ↔ lsS M fm kn br ls lim mo n k (2 ^ n - 1) (2 ^ n) = [] := by
  have := la_ls_len (M := M) (fm := fm) (kn := kn) (br := br) (ls := ls) (lim := lim) (mo := mo) hn hMn hk0
  rw [← List.length_eq_zero_iff, ← List.length_eq_zero_iff, this]
set_option maxHeartbeats 4000000 in
theorem pu_test {hb : (Nat → Int32)} {hc : Int32} {hf : (Nat → Int32)} {hl : Int32} {hk : (Nat → Nat → Int32)} {ht : (Nat → Int32)} {hm he : Int32} {hw sl : (Nat → Int32)} {sp ss : Int32} {su ce cf cm : (Nat → Int32)} {cp cs cn : Int32} {oa ob : (Nat → Int32)} {oy : Int32} {tf tm : (Nat → Int32)} {m_animals : Int32} {m_sexes m_worths m_families m_kins m_isBarred : (Nat → Int32)} {m_limit m_most : Int32} {m_leasts : (Nat → Int32)} {m_tested m_pairs m_choice m_choiceSets : Int32} {m_he m_she m_eggs : (Nat → Int32)} {m_years : Int32} {m_alive m_yearSets m_yearWorths : (Nat → Int32)} {m_best m_bestWorth : Int32} {m_females m_males : (Nat → Int32)} {m_many : Int32} {m_now : (Nat → Int32)} {m_sets m_testedBy : Int32} {m_then : (Nat → Int32)} (R : RR hb hc hf hl hk ht hm he hw sl sp ss su ce cf cm cp cs cn oa ob oy m_animals m_sexes m_worths m_families m_kins m_isBarred m_limit m_most m_leasts m_tested m_pairs m_choice m_choiceSets m_he m_she m_eggs m_years m_alive m_yearSets m_yearWorths) (x1 : Int32) (x2 : Int32) : wp_PairChoice_test hb hc hf hl hk ht hm he hw sl sp ss su tf tm x1 x2 (fun r sl' sp' ss' su' tf' tm' => wp_M_test m_animals m_best m_bestWorth m_families m_females m_isBarred m_kins m_leasts m_limit m_males m_many m_most m_now m_sets m_sexes m_tested m_testedBy m_then m_worths x1 x2 (fun r' m_best' m_bestWorth' m_females' m_males' m_many' m_now' m_sets' m_tested' m_testedBy' m_then' => r = r' ∧ RR hb hc hf hl hk ht hm he hw sl' sp' ss' su' ce cf cm cp cs cn oa ob oy m_animals m_sexes m_worths m_families m_kins m_isBarred m_limit m_most m_leasts m_tested' m_pairs m_choice m_choiceSets m_he m_she m_eggs m_years m_alive m_yearSets m_yearWorths)) := by
  obtain ⟨n, M, rfl, rfl, rfl, rfl, rfl, rfl, rfl, hH, hL, hC, hO, rfl⟩ := id R
  obtain ⟨hn, hMn, _⟩ := id hH.1
  have hM := hH.2.1
  have hwt := hH.2.2.2.2.2.2.2
  unfold wp_PairChoice_test wp_M_test
  by_cases r1 : 1 ≤ x1 ∧ x1 ≤ 6
  · refine w_np1 r1 (e1 ?_)
    by_cases r2 : 1 ≤ x2 ∧ x2 ≤ 10000
    · obtain ⟨k, hk0, hk, rfl⟩ := np_of r1
      refine w_w1 r2 (n1 (u_listAll hH.1 hk hk0 hL (fun li si su' tf' tm' hh => ?_)))
      have hR' : RR hb (nI n) hf hl _ ht (nI M) he hw li (nI k) si su' ce cf cm cp cs cn oa ob oy (nI n) m_sexes hw m_families m_kins m_isBarred hl he ht (-1) m_pairs m_choice m_choiceSets m_he m_she m_eggs m_years m_alive m_yearSets m_yearWorths := ⟨n, M, rfl, rfl, rfl, rfl, rfl, rfl, rfl, hH, Or.inr ⟨k, hk0, hk, rfl, hh⟩, hC, hO, rfl⟩
      have hll := la_len (M := M) (fm := m_families) (kn := m_kins) (br := m_isBarred) (ls := ht) (lim := hl) (mo := he) hn hMn hk hk0
      by_cases hnil : laM M m_families m_kins m_isBarred ht hl he n k 4096 M = []
      · have hz : si = 0 := by rw [hh.1, hnil]; rfl
        refine p1 hz (w_i1 r1 (e1 (w_i1 r2 (n1 (w_all hn (w_find hn hM hMn hk hk0 (fun f m mn now th => ?_)))))))
        rw [if_pos ((la_nil hn hMn hk0).1 hnil)]
        exact n0 ⟨rfl, hR'⟩
      · have hz : ¬ si = 0 := by
          rw [hh.1]
          refine nI_ne0 ?_ (by omega)
          rcases Nat.eq_zero_or_pos (laM M m_families m_kins m_isBarred ht hl he n k 4096 M).length with z | z
          · exact absurd (List.eq_nil_of_length_eq_zero z) hnil
          · exact z
        refine p0 hz ⟨n + 1, c_test_a hn hMn hk hk0 hwt r2 hnil hh (w_i1 r1 (e1 (w_i1 r2 (n1 (w_all hn (w_find hn hM hMn hk hk0 (fun f m mn now th => ?_))))))) n 0 (by omega)⟩
        rw [if_neg (fun z => hnil ((la_nil hn hMn hk0).2 z))]
        exact n1 ⟨n + 1, m_test_a hn hMn hM hk hk0 hnil (fun _ _ _ _ _ _ _ _ _ => ⟨rfl, hR'⟩) n 0 _ _ _ _ _ _ _ _ _ _ (by omega)⟩
    · exact w_w0 r2 (n0 (w_i1 r1 (e1 (w_i0 r2 (n0 ⟨rfl, R⟩)))))
  · exact w_np0 r1 (e0 (w_i0 r1 (e0 ⟨rfl, R⟩)))
