/-! backUp -/
def gdS (M S m f k n : Nat) (fm kn br ls : Nat → Int32) (lim mo : Int32) (a : Nat) : Bool := M.testBit a && !S.testBit a && decide (br (12 * a + f) = 0) && fitsS fm kn ls lim mo n k (dif S (2 ^ m) ||| 2 ^ a)
def bkS (good : Nat → Bool) (wt : Nat → Int32) : Nat → Int32
  | 0 => -3
  | a + 1 => if good a = true ∧ (bkS good wt a < 0 ∨ wt (bkS good wt a).toNatClampNeg < wt a) then nI a else bkS good wt a
theorem bkS_ok (good : Nat → Bool) (wt : Nat → Int32) : ∀ a, bkS good wt a = -3 ∨ ∃ j, j < a ∧ bkS good wt a = nI j := by
  intro a
  induction a with
  | zero => exact Or.inl rfl
  | succ a ih =>
    rw [bkS]
    split
    · exact Or.inr ⟨a, by omega, rfl⟩
    · rcases ih with h | ⟨j, h1, h2⟩
      · exact Or.inl h
      · exact Or.inr ⟨j, by omega, h2⟩
/-- one more animal -/
theorem bk_step {good : Nat → Bool} {wt : Nat → Int32} {a : Nat} (ha : a < 12) {A : Int32 → Prop} (h : A (bkS good wt (a + 1))) : (good a = false → A (bkS good wt a)) ∧ (good a = true → ((bkS good wt a < 0 → A (nI a)) ∧ (¬ bkS good wt a < 0 → (vp_in (nI a) 12 ∧ (vp_in (bkS good wt a) 12 ∧ ((wt a ≤ wt (bkS good wt a).toNatClampNeg → A (bkS good wt a)) ∧ (¬ wt a ≤ wt (bkS good wt a).toNatClampNeg → A (nI a)))))))) := by
  rw [bkS] at h
  refine ⟨fun g => ?_, fun g => ⟨fun z => ?_, fun z => ⟨vp_in_nI ha (by decide), ?_, fun w => ?_, fun w => ?_⟩⟩⟩
  · rw [if_neg (fun q => by rw [g] at q; cases q.1)] at h
    exact h
  · rw [if_pos ⟨g, Or.inl z⟩] at h
    exact h
  · rcases bkS_ok good wt a with e | ⟨j, h1, e⟩
    · rw [e] at z
      exact absurd (by decide) z
    · rw [e]
      exact vp_in_nI (by omega) (by decide)
  · rw [if_neg (fun q => q.2.elim z (fun v => by rw [Int32.le_iff_toInt_le] at w; rw [Int32.lt_iff_toInt_lt] at v; omega))] at h
    exact h
  · rw [if_pos ⟨g, Or.inr (by rw [Int32.le_iff_toInt_le] at w; rw [Int32.lt_iff_toInt_lt]; omega)⟩] at h
    exact h
theorem set_lt {n S m a : Nat} (hS : S < 2 ^ n) (ha : a < n) : dif S (2 ^ m) ||| 2 ^ a < 2 ^ n := Nat.or_lt_two_pow (dif_lt hS) (Nat.pow_lt_pow_right (by decide) ha)
theorem c_backUp_a {n M : Nat} {cb cf : Nat → Int32} {kg : Nat → Nat → Int32} {mo lim : Int32} {fm kn br ls wt : Nat → Int32} (H : HR n M cb cf kg mo fm kn br) {S m f k i : Nat} (hS : S < 2 ^ n) (hm : m < n) (hf : f < n) (hi : i < 6) {pf pm : Nat → Int32} (e1 : pm i = nI m) (e2 : pf i = nI f) {post : Int32 → Prop} (hp : post (bkS (gdS M S m f k n fm kn br ls lim mo) wt n)) :
    ∀ q a : Nat, a + q = n → wp_PairChoice_backUp_L18 pf pm (nI k) (nI S) cb (nI n) cf lim kg ls (nI M) mo wt (nI i) post (q + 1) (bkS (gdS M S m f k n fm kn br ls lim mo) wt a) (nI a) := by
  obtain ⟨hn, hMn, hcf, hmo, hkg, hsym, hcb⟩ := H
  have h12 : 2 ^ n ≤ 2 ^ 12 := Nat.pow_le_pow_right (by decide) hn
  intro q
  induction q with
  | zero =>
    intro a ha
    rw [wp_PairChoice_backUp_L18]
    refine pk_le n a (fun _ => ?_) (fun h => absurd h (by omega))
    rw [show a = n by omega]
    exact hp
  | succ q ih =>
    intro a ha
    rw [wp_PairChoice_backUp_L18]
    refine pk_le n a (fun h => absurd h (by omega)) (fun _ => ?_)
    rw [nI_1, nI_clamp (n := a) (by omega)]
    obtain ⟨s0, s1⟩ := bk_step (good := gdS M S m f k n fm kn br ls lim mo) (wt := wt) (a := a) (by omega) (A := fun x => wp_PairChoice_backUp_L18 pf pm (nI k) (nI S) cb (nI n) cf lim kg ls (nI M) mo wt (nI i) post (q + 1) x (nI (a + 1))) (ih (a + 1) (by omega))
    have ii : vp_in (nI i) 6 := vp_in_nI hi (by decide)
    unfold wp_Choice_couldStandIn
    rw [mk_andn, nI_clamp (n := a) (by omega), nI_clamp (n := i) (by omega), e1, e2]
    have hd : dif M S < 2 ^ n := dif_lt hMn
    refine w_has (by omega) (by omega) (fun ht => ?_) (fun ht => ?_)
    · refine ⟨fun _ => ⟨fun _ => s0 ?_, fun z => absurd rfl z⟩, fun z => absurd rfl z⟩
      rw [dif_bit] at ht
      unfold gdS
      rw [ht]
      rfl
    · rw [dif_bit] at ht
      obtain ⟨Bm, b1, b2, b3⟩ := hcb a (by omega)
      refine ⟨fun z => absurd z (by decide), fun _ => ⟨vp_in_nI (by omega) (by decide), ii, ?_⟩⟩
      rw [b1]
      refine w_has (by omega) (by omega) (fun hb => ?_) (fun hb => ?_)
      · have hbr : br (12 * a + f) = 0 := by
          by_cases z : br (12 * a + f) = 0
          · exact z
          · rw [(b3 f hf).2 z] at hb
            cases hb
        refine ⟨fun _ => ⟨ii, w_bit (by omega) (w_bit (by omega) ?_)⟩, fun z => absurd rfl z⟩
        rw [mk_andn, mk_or]
        refine u_keepsRules hn (set_lt hS (by omega)) hcf hmo hkg hsym ?_
        cases hfit : fitsS fm kn ls lim mo n k (dif S (2 ^ m) ||| 2 ^ a)
        · exact ⟨fun _ => s0 (by unfold gdS; rw [hfit, Bool.and_false]), fun z => absurd rfl z⟩
        · exact ⟨fun z => absurd z (by decide), fun _ => s1 (by unfold gdS; rw [ht, hfit, hbr]; rfl)⟩
      · have hbr : ¬ br (12 * a + f) = 0 := (b3 f hf).1 hb
        exact ⟨fun z => absurd z (by decide), fun _ => ⟨fun _ => s0 (by unfold gdS; rw [decide_eq_false hbr, Bool.and_false]; rfl), fun z => absurd rfl z⟩⟩
theorem m_backUp_a {n M : Nat} (hn : n ≤ 12) {sx : Nat → Int32} (hM : ∀ a, a < n → (sx a = 0 ↔ M.testBit a = true)) {mo lim : Int32} {fm kn br ls wt : Nat → Int32} {S m f k i : Nat} (hS : S < 2 ^ n) (hm : m < n) (hf : f < n) (hi : i < 6) {he she : Nat → Int32} (e1 : he i = nI m) (e2 : she i = nI f) {post : Int32 → Prop} (hp : post (bkS (gdS M S m f k n fm kn br ls lim mo) wt n)) :
    ∀ q a : Nat, a + q = n → wp_M_backUp_L21 (nI n) (nI S) fm he br kn ls lim mo (nI k) sx she wt (nI i) post (q + 1) (bkS (gdS M S m f k n fm kn br ls lim mo) wt a) (nI a) := by
  have h12 : 2 ^ n ≤ 2 ^ 12 := Nat.pow_le_pow_right (by decide) hn
  intro q
  induction q with
  | zero =>
    intro a ha
    rw [wp_M_backUp_L21]
    refine pk_le n a (fun _ => ?_) (fun h => absurd h (by omega))
    rw [show a = n by omega]
    exact hp
  | succ q ih =>
    intro a ha
    rw [wp_M_backUp_L21]
    obtain ⟨s0, s1⟩ := bk_step (good := gdS M S m f k n fm kn br ls lim mo) (wt := wt) (a := a) (by omega) (A := fun x => wp_M_backUp_L21 (nI n) (nI S) fm he br kn ls lim mo (nI k) sx she wt (nI i) post (q + 1) x (nI (a + 1))) (ih (a + 1) (by omega))
    have ii : vp_in (nI i) 6 := vp_in_nI hi (by decide)
    refine pk_le n a (fun h => absurd h (by omega)) (fun _ => ⟨ii, vp_in_nI (by omega) (by decide), ?_⟩)
    rw [nI_1, nI_clamp (n := a) (by omega), nI_clamp (n := i) (by omega), e1, e2, ix12c (a := a) (b := f) (by omega) (by omega), mk_bit (a := m) (by omega), mk_bit (a := a) (by omega), mk_andn, mk_or]
    have hsl := set_lt (m := m) (a := a) hS (by omega)
    refine ⟨fun hx => s0 ?_, fun hx => ?_⟩
    · have : M.testBit a = false := by
        cases z : M.testBit a
        · rfl
        · exact absurd ((hM a (by omega)).2 z) hx
      unfold gdS
      rw [this]
      rfl
    · have hMa := (hM a (by omega)).1 hx
      refine hb0' (by omega) (by omega) (fun hb => s0 ?_) (fun hb => ⟨ii, ix12i (by omega) (by omega), fun hbr => s0 ?_, fun hbr => w_fits hn (by omega) ?_⟩)
      · unfold gdS
        rw [hb, hMa]
        rfl
      · unfold gdS
        rw [decide_eq_false hbr, Bool.and_false]
        rfl
      · cases hfit : fitsS fm kn ls lim mo n k (dif S (2 ^ m) ||| 2 ^ a)
        · exact ⟨fun _ => s0 (by unfold gdS; rw [hfit, Bool.and_false]), fun z => absurd rfl z⟩
        · exact ⟨fun z => absurd z (by decide), fun _ => s1 (by unfold gdS; rw [hMa, hb, hfit, hbr]; rfl)⟩
set_option maxHeartbeats 4000000 in
theorem pu_backUp {hb : (Nat → Int32)} {hc : Int32} {hf : (Nat → Int32)} {hl : Int32} {hk : (Nat → Nat → Int32)} {ht : (Nat → Int32)} {hm he : Int32} {hw sl : (Nat → Int32)} {sp ss : Int32} {su ce cf cm : (Nat → Int32)} {cp cs cn : Int32} {oa ob : (Nat → Int32)} {oy : Int32} {m_animals : Int32} {m_sexes m_worths m_families m_kins m_isBarred : (Nat → Int32)} {m_limit m_most : Int32} {m_leasts : (Nat → Int32)} {m_tested m_pairs m_choice m_choiceSets : Int32} {m_he m_she m_eggs : (Nat → Int32)} {m_years : Int32} {m_alive m_yearSets m_yearWorths : (Nat → Int32)} (R : RR hb hc hf hl hk ht hm he hw sl sp ss su ce cf cm cp cs cn oa ob oy m_animals m_sexes m_worths m_families m_kins m_isBarred m_limit m_most m_leasts m_tested m_pairs m_choice m_choiceSets m_he m_she m_eggs m_years m_alive m_yearSets m_yearWorths) (x1 : Int32) : wp_PairChoice_backUp cf cm cp cs hb hc hf hl hk ht hm he hw x1 (fun r => wp_M_backUp m_animals m_choice m_families m_he m_isBarred m_kins m_leasts m_limit m_most m_pairs m_sexes m_she m_worths x1 (fun r' => r = r' ∧ RR hb hc hf hl hk ht hm he hw sl sp ss su ce cf cm cp cs cn oa ob oy m_animals m_sexes m_worths m_families m_kins m_isBarred m_limit m_most m_leasts m_tested m_pairs m_choice m_choiceSets m_he m_she m_eggs m_years m_alive m_yearSets m_yearWorths)) := by
  obtain ⟨n, M, rfl, rfl, rfl, rfl, rfl, rfl, rfl, hH, hL, hC, hO, rfl⟩ := id R
  unfold wp_PairChoice_backUp wp_M_backUp
  rcases pair_split hC x1 with ⟨q1', q2'⟩ | ⟨i, k, S, hi, h0, h6, rfl, rfl, rfl, h3, rfl, rfl, h7, h8⟩
  · exact w_hp0 q2' (n0 (w_i0 q1' (n0 ⟨rfl, R⟩)))
  · obtain ⟨g1, a, f, g2, g3, g4, g5, g6, g7⟩ := h8 i hi
    refine w_hp1 hi h6 (n1 ⟨n + 1, ?_⟩)
    exact c_backUp_a (k := k) hH.1 h3 g2 g3 (by omega) g4 g6 (w_i1 (in_ok (by omega) hi) (n1 ⟨n + 1, m_backUp_a (k := k) hH.1.1 hH.2.1 h3 g2 g3 (by omega) g5 g7 ⟨rfl, R⟩ n 0 (by omega)⟩)) n 0 (by omega)
