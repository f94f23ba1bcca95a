/-! the landed class: pairing -/
def lowB (x : Nat) : Nat := (bl x 12).headD 0
set_option maxRecDepth 100000 in
theorem low_ok : ∀ x, x < 4096 → ¬ x = 0 → (nI x &&& (-(nI x))) - 1 = nI (2 ^ lowB x - 1) := by decide +kernel
theorem pcn_ones : ∀ a, a < 12 → pcn 12 (2 ^ a - 1) = a := by decide +kernel
theorem bl_12 {x n : Nat} (hx : x < 2 ^ n) (hn : n ≤ 12) : bl x 12 = bl x n := by
  have h : ∀ k, bl x (n + k) = bl x n := by
    intro k
    induction k with
    | zero => rfl
    | succ k ih =>
      rw [← Nat.add_assoc, bl_succ, tb_lt hx (by omega), if_neg (by decide)]
      exact ih
  have := h (12 - n)
  rw [show n + (12 - n) = 12 by omega] at this
  exact this
theorem bl_tail {x n m : Nat} {r : List Nat} (h : bl x n = m :: r) : bl (dif x (2 ^ m)) n = r := by
  have hnd := bl_nodup x n
  rw [h] at hnd
  have hm : m ∉ r := (List.nodup_cons.mp hnd).1
  have e : bl (dif x (2 ^ m)) n = (bl x n).filter (fun a => !decide (m = a)) := by
    unfold bl
    rw [List.filter_filter]
    congr 1
    funext a
    rw [dif_bit, tb_pow, Bool.and_comm]
  rw [e, h, List.filter_cons, if_neg (by simp)]
  apply List.filter_eq_self.2
  intro a ha
  have : ¬ m = a := fun q => hm (q ▸ ha)
  simp [this]
theorem bl_zero (n : Nat) : bl 0 n = [] := by
  unfold bl
  apply List.filter_eq_nil_iff.2
  intro a _
  simp
theorem bl_ne {x n : Nat} (hx : x < 2 ^ n) (h : ¬ x = 0) : ∃ m r, bl x n = m :: r := by
  cases e : bl x n with
  | cons m r => exact ⟨m, r, rfl⟩
  | nil =>
    exfalso
    apply h
    apply Nat.eq_of_testBit_eq
    intro i
    rw [Nat.zero_testBit]
    rcases Nat.lt_or_ge i n with q | q
    · cases hb : x.testBit i
      · rfl
      · have : i ∈ bl x n := bl_mem.2 ⟨q, hb⟩
        rw [e] at this
        cases this
    · exact tb_lt hx q
theorem u_leastOf {n x m : Nat} {r : List Nat} (hn : n ≤ 12) (hx : x < 2 ^ n) (h : bl x n = m :: r) {post : Int32 → Prop} (hp : post (nI m)) : wp_PairChoice_leastOf (nI x) post := by
  unfold wp_PairChoice_leastOf
  have h0 : ¬ x = 0 := fun q => by rw [q, bl_zero] at h; cases h
  have e : lowB x = m := by
    unfold lowB
    rw [bl_12 hx hn, h]
    rfl
  have hm : m < n := (bl_mem.1 (by rw [h]; exact List.mem_cons_self)).1
  have hx4 : x < 4096 := Nat.lt_of_lt_of_le hx (Nat.pow_le_pow_right (by decide) hn)
  rw [low_ok x hx4 h0, e]
  have h2 : 2 ^ m < 2 ^ 12 := Nat.pow_lt_pow_right (by decide) (by omega)
  refine w_bc (by omega) ?_
  rw [pcn_ones m (by omega)]
  exact hp
/-- what is barred, as masks -/
def barM (n : Nat) (br cb : Nat → Int32) : Prop := ∀ a, a < n → ∃ Bm, cb a = nI Bm ∧ Bm < 2 ^ n ∧ ∀ b, b < n → (Bm.testBit b = true ↔ ¬ br (12 * a + b) = 0)
/-- the array with a list laid into it from k on -/
def laidA (k : Nat) (l : List Nat) (w w' : Nat → Int32) : Prop := ∀ j, w' j = if k ≤ j ∧ j < k + l.length then nI (l.getD (j - k) 0) else w j
theorem laidA_nil (k : Nat) (w : Nat → Int32) : laidA k [] w w := fun j => by rw [if_neg (fun z => by have h2 := z.2; rw [List.length_nil] at h2; omega)]
theorem laidA_cons {k f : Nat} {l : List Nat} {w w' : Nat → Int32} (h : laidA (k + 1) l w w') : laidA k (f :: l) w (upd w' k (nI f)) := by
  intro j
  by_cases e : j = k
  · subst e
    rw [pk_us, if_pos (by simp), Nat.sub_self]
    rfl
  · rw [pk_un e, h j]
    by_cases c : k + 1 ≤ j ∧ j < k + 1 + l.length
    · rw [if_pos c, if_pos (by simp; omega), show j - k = (j - (k + 1)) + 1 by omega]
      rfl
    · rw [if_neg c, if_neg (by simp; omega)]
theorem u_pairFrom {n : Nat} (hn : n ≤ 12) {br cb : Nat → Int32} (hcb : barM n br cb) : ∀ (d k X G : Nat) (fl ml : Nat → Int32) (post : Int32 → (Nat → Int32) → (Nat → Int32) → Prop), X < 2 ^ n → G < 2 ^ n → k + pcn n X ≤ 6 → pcn n X < d →
    (pairM br n (bl X n) G = none → post 0 fl ml) → (∀ l fl' ml', pairM br n (bl X n) G = some l → laidA k l fl fl' → laidA k (bl X n) ml ml' → post 1 fl' ml') → wp_Pairing_pairFrom d cb (nI n) fl ml (nI k) (nI X) (nI G) post := by
  intro d
  induction d with
  | zero => intro k X G fl ml post _ _ _ h; omega
  | succ d ihd =>
    intro k X G fl ml post hX hG hk hd h0 h1
    have hX4 : X < 4096 := Nat.lt_of_lt_of_le hX (Nat.pow_le_pow_right (by decide) hn)
    rw [wp_Pairing_pairFrom]
    by_cases hz : X = 0
    · subst hz
      refine ⟨fun q => absurd nI_0 q, fun _ => ?_⟩
      refine h1 [] fl ml ?_ (laidA_nil k fl) ?_
      · rw [bl_zero]
        rfl
      · rw [bl_zero]
        exact laidA_nil k ml
    · obtain ⟨m, r, e⟩ := bl_ne hX hz
      have hlen : pcn n X = r.length + 1 := by rw [← bl_len, e]; rfl
      have hm : m < n := (bl_mem.1 (by rw [e]; exact List.mem_cons_self)).1
      have et := bl_tail e
      have hlr : pcn n (dif X (2 ^ m)) = r.length := by rw [← bl_len, et]
      refine ⟨fun _ => ⟨fun _ => ?_, fun q => absurd (nI_lt (a := k) (b := 6) (by omega) (by decide)) q⟩, fun q => absurd ((mk_z (by omega)).1 q) hz⟩
      refine u_leastOf hn hX e (w_knows hn (fun a ha ea => ⟨fun _ => ⟨vp_in_nI (by omega) (by decide), n + 1, ?_⟩, fun q => absurd q (by decide)⟩) (fun q => absurd q (fun q => q.elim (nI_pos (by omega)) (nI_ge hm (by omega)))))
      obtain ⟨Bm, b1, b2, b3⟩ := hcb m hm
      -- the females upwards
      have hpm : pairM br n (bl X n) G = firstF (fun f => if G.testBit f = true ∧ br (12 * m + f) = 0 then (pairM br n r (dif G (2 ^ f))).map (fun l => f :: l) else none) 0 n := by rw [e]; rfl
      rw [hpm] at h0 h1
      have lp : ∀ q f : Nat, f + q = n → (firstF (fun f => if G.testBit f = true ∧ br (12 * m + f) = 0 then (pairM br n r (dif G (2 ^ f))).map (fun l => f :: l) else none) f q = none → post 0 fl ml) → (∀ l fl' ml', firstF (fun f => if G.testBit f = true ∧ br (12 * m + f) = 0 then (pairM br n r (dif G (2 ^ f))).map (fun l => f :: l) else none) f q = some l → laidA k l fl fl' → laidA k (bl X n) ml ml' → post 1 fl' ml') → wp_Pairing_pairFrom_L48 cb (nI n) (nI k) (nI X) (nI G) (nI m) (wp_Pairing_pairFrom d) post (q + 1) (nI f) fl ml := by
        intro q
        induction q with
        | zero =>
          intro f hf p0 p1
          rw [wp_Pairing_pairFrom_L48]
          refine pk_le n f (fun _ => p0 rfl) (fun h => absurd h (by omega))
        | succ q ih =>
          intro f hf p0 p1
          rw [wp_Pairing_pairFrom_L48]
          refine pk_le n f (fun h => absurd h (by omega)) (fun _ => ?_)
          rw [firstF] at p0 p1
          rw [nI_clamp (n := m) (by omega), b1, mk_andn, nI_1]
          have hGB : dif G Bm < 2 ^ n := tb_small (fun i hi => by rw [dif_bit, tb_lt hG hi]; rfl)
          have hbit : (dif G Bm).testBit f = true ↔ G.testBit f = true ∧ br (12 * m + f) = 0 := by
            rw [dif_bit, Bool.and_eq_true, Bool.not_eq_true', ← Bool.not_eq_true, b3 f (by omega), Classical.not_not]
          refine w_has (by have := Nat.pow_le_pow_right (n := 2) (by decide) hn; omega) (by omega) (fun ht => ⟨fun _ => ?_, fun z => absurd rfl z⟩) (fun ht => ⟨fun z => absurd z (by decide), fun _ => ?_⟩)
          · have hno : ¬ (G.testBit f = true ∧ br (12 * m + f) = 0) := fun z => by rw [hbit.2 z] at ht; cases ht
            rw [if_neg hno] at p0 p1
            exact ih (f + 1) (by omega) p0 p1
          · have hyes := hbit.1 ht
            rw [if_pos hyes] at p0 p1
            refine w_bit (by omega) (w_bit (by omega) ?_)
            rw [mk_andn, mk_andn, nI_1]
            refine ihd (k + 1) (dif X (2 ^ m)) (dif G (2 ^ f)) fl ml _ (tb_small (fun i hi => by rw [dif_bit, tb_lt hX hi]; rfl)) (tb_small (fun i hi => by rw [dif_bit, tb_lt hG hi]; rfl)) (by omega) (by omega) (fun hnone => ⟨fun _ => ?_, fun z => absurd rfl z⟩) (fun l fl' ml' hsome hf1 hm1 => ⟨fun z => absurd z (by decide), fun _ => ⟨vp_in_nI (by omega) (by decide), vp_in_nI (by omega) (by decide), ?_⟩⟩)
            · rw [et] at hnone
              rw [hnone] at p0 p1
              exact ih (f + 1) (by omega) p0 p1
            · rw [et] at hsome
              rw [hsome] at p1
              rw [nI_clamp (n := k) (by omega)]
              refine p1 (f :: l) _ _ rfl (laidA_cons hf1) ?_
              rw [e]
              rw [et] at hm1
              exact laidA_cons hm1
      exact lp n 0 (by omega) h0 h1
theorem u_pairSet {n M s : Nat} (hn : n ≤ 12) {br cb : Nat → Int32} (hcb : barM n br cb) (hs : s < 2 ^ n) (hk : pcn n (s &&& M) ≤ 6) {fl ml : Nat → Int32} {post : Int32 → (Nat → Int32) → (Nat → Int32) → Prop}
    (h0 : pairM br n (bl (s &&& M) n) (dif s M) = none → post 0 fl ml) (h1 : ∀ l fl' ml', pairM br n (bl (s &&& M) n) (dif s M) = some l → laidA 0 l fl fl' → laidA 0 (bl (s &&& M) n) ml ml' → post 1 fl' ml') : wp_Pairing_pairSet cb (nI n) (nI M) fl ml (nI s) post := by
  unfold wp_Pairing_pairSet
  rw [mk_and, mk_andn]
  exact u_pairFrom hn hcb 8 0 (s &&& M) (dif s M) fl ml _ (tb_small (fun i hi => by rw [Nat.testBit_and, tb_lt hs hi]; rfl)) (tb_small (fun i hi => by rw [dif_bit, tb_lt hs hi]; rfl)) (by omega) (by omega) h0 h1
set_option maxRecDepth 100000 in
theorem low2 : ∀ x, x < 4096 → ¬ x = 0 → (nI x &&& (-(nI x))) = nI (2 ^ lowB x) := by decide +kernel
set_option maxRecDepth 100000 in
theorem lowB_ok : ∀ x, x < 4096 → ¬ x = 0 → lowB x < 12 ∧ x.testBit (lowB x) = true ∧ ∀ t, t < lowB x → x.testBit t = false := by decide +kernel
