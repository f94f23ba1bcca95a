/-! the landed class: sums and rules of a set -/
section
theorem c_worthSum_a {n s : Nat} (hn : n ≤ 12) (hs : s < 2 ^ 31) {wt : Nat → Int32} {post : Int32 → Prop} (h : post (wsm wt s n)) : ∀ k a : Nat, a + k = n → wp_Herd_worthSum_L4 (nI n) wt (nI s) post (k + 1) (wsm wt s a) (nI a) := by
  intro k
  induction k with
  | zero =>
    intro a ha
    rw [wp_Herd_worthSum_L4]
    refine pk_le n a (fun _ => ?_) (fun h => absurd h (by omega))
    rw [show a = n by omega]
    exact h
  | succ k ih =>
    intro a ha
    rw [wp_Herd_worthSum_L4]
    refine pk_le n a (fun h => absurd h (by omega)) (fun _ => ?_)
    have ih' := ih (a + 1) (by omega)
    rw [wsm] at ih'
    rw [nI_1, nI_clamp (by omega)]
    refine w_has hs (by omega) (fun ht => ⟨fun _ => ?_, fun z => absurd rfl z⟩) (fun ht => ⟨fun z => absurd z (by decide), fun _ => ⟨vp_in_nI (by omega) (by decide), ?_⟩⟩)
    · rw [ht, if_neg (by decide)] at ih'
      exact ih'
    · rw [ht, if_pos rfl] at ih'
      exact ih'
theorem u_worthSum {n s : Nat} (hn : n ≤ 12) (hs : s < 2 ^ 31) {wt : Nat → Int32} {post : Int32 → Prop} (h : post (wsm wt s n)) : wp_Herd_worthSum (nI n) wt (nI s) post := by
  unfold wp_Herd_worthSum
  exact ⟨n + 1, c_worthSum_a hn hs h n 0 (by omega)⟩
/-- kin, each pair twice -/
def kcS (kn : Nat → Int32) (s : Nat) : Nat → Int32
  | 0 => 0
  | a + 1 => if s.testBit a = true then kcS kn s a + kn (12 * a + a) + 2 * rowS kn s a a else kcS kn s a
theorem c_kinSum_b {s : Nat} (hs : s < 2 ^ 31) {kg : Nat → Nat → Int32} {kn : Nat → Int32} (hkg : ∀ a b, a < 12 → b < 12 → kg a b = kn (12 * a + b)) {post : Int32 → Prop} {K : Int32 → Int32 → Prop} {a : Nat} (ha : a < 12) (acc : Int32) : ∀ k b : Nat, b + k = a → K (acc + 2 * rowS kn s a a) (nI a + 1) → wp_Herd_kinSum_L37 kg (nI s) (nI a) post K (k + 1) (acc + 2 * rowS kn s a b) (nI b) := by
  intro k
  induction k with
  | zero =>
    intro b hb hK
    rw [wp_Herd_kinSum_L37]
    refine pk_le a b (fun _ => ?_) (fun h => absurd h (by omega))
    rw [show b = a by omega]
    exact hK
  | succ k ih =>
    intro b hb hK
    rw [wp_Herd_kinSum_L37]
    refine pk_le a b (fun h => absurd h (by omega)) (fun _ => ?_)
    have ih' := ih (b + 1) (by omega) hK
    rw [rowS] at ih'
    rw [nI_1, nI_clamp (n := a) (by omega), nI_clamp (n := b) (by omega), hkg a b ha (by omega)]
    refine w_has hs (by omega) (fun ht => ⟨fun _ => ?_, fun z => absurd rfl z⟩) (fun ht => ⟨fun z => absurd z (by decide), fun _ => ⟨vp_in_nI (by omega) (by decide), vp_in_nI (by omega) (by decide), ?_⟩⟩)
    · rw [ht, if_neg (by decide)] at ih'
      exact ih'
    · rw [ht, if_pos rfl] at ih'
      have e : acc + 2 * (rowS kn s a b + kn (12 * a + b)) = acc + 2 * rowS kn s a b + 2 * kn (12 * a + b) := by grind
      rw [e] at ih'
      exact ih'
theorem c_kinSum_a {n s : Nat} (hn : n ≤ 12) (hs : s < 2 ^ 31) {kg : Nat → Nat → Int32} {kn : Nat → Int32} (hkg : ∀ a b, a < 12 → b < 12 → kg a b = kn (12 * a + b)) {post : Int32 → Prop} (h : post (kcS kn s n)) : ∀ k a : Nat, a + k = n → wp_Herd_kinSum_L4 (nI n) kg (nI s) post (k + 1) (kcS kn s a) (nI a) := by
  intro k
  induction k with
  | zero =>
    intro a ha
    rw [wp_Herd_kinSum_L4]
    refine pk_le n a (fun _ => ?_) (fun h => absurd h (by omega))
    rw [show a = n by omega]
    exact h
  | succ k ih =>
    intro a ha
    rw [wp_Herd_kinSum_L4]
    refine pk_le n a (fun h => absurd h (by omega)) (fun _ => ?_)
    have ih' := ih (a + 1) (by omega)
    rw [kcS] at ih'
    refine w_has hs (by omega) (fun ht => ⟨fun z => absurd rfl z, fun _ => ?_⟩) (fun ht => ⟨fun _ => ⟨vp_in_nI (by omega) (by decide), vp_in_nI (by omega) (by decide), a + 1, ?_⟩, fun z => absurd z (by decide)⟩)
    · rw [ht, if_neg (by decide)] at ih'
      rw [nI_1]
      exact ih'
    · rw [ht, if_pos rfl] at ih'
      rw [nI_clamp (n := a) (by omega), hkg a a (by omega) (by omega)]
      have q := c_kinSum_b hs hkg (post := post) (K := fun z0 z1 => wp_Herd_kinSum_L4 (nI n) kg (nI s) post (k + 1) z0 z1) (a := a) (by omega) (kcS kn s a + kn (12 * a + a)) a 0 (by omega) (by rw [nI_1]; exact ih')
      rw [rowS, Int32.mul_zero, Int32.add_zero] at q
      exact q
/-- both ways of summing kin are one -/
theorem rowS_col {s : Nat} {kn : Nat → Int32} (hsym : ∀ a b, a < 12 → b < 12 → kn (12 * a + b) = kn (12 * b + a)) {m : Nat} (hm : m < 12) : ∀ a, a ≤ 12 → kinS kn s (m + 1) a = kinS kn s m a + (if s.testBit m = true then rowS kn s m a else 0) := by
  intro a
  induction a with
  | zero =>
    intro _
    rw [kinS, kinS, rowS, ite_self]
    rfl
  | succ a ih =>
    intro h
    have ih' := ih (by omega)
    rw [kinS, kinS, rowS, rowS, ih', hsym m a hm (by omega)]
    cases h1 : s.testBit a <;> cases h2 : s.testBit m
    · simp
    · simp
    · simp
    · simp only [if_true]
      grind
theorem kcS_eq {s : Nat} {kn : Nat → Int32} (hsym : ∀ a b, a < 12 → b < 12 → kn (12 * a + b) = kn (12 * b + a)) : ∀ n, n ≤ 12 → kcS kn s n = kinS kn s n n := by
  intro n
  induction n with
  | zero => intro _; rfl
  | succ n ih =>
    intro h
    have e := rowS_col (s := s) hsym (m := n) (by omega) n (by omega)
    rw [kcS, kinS, e, ih (by omega), rowS]
    cases h1 : s.testBit n
    · simp
    · simp only [if_true]
      grind
theorem u_kinSum {n s : Nat} (hn : n ≤ 12) (hs : s < 2 ^ 31) {kg : Nat → Nat → Int32} {kn : Nat → Int32} (hkg : ∀ a b, a < 12 → b < 12 → kg a b = kn (12 * a + b)) (hsym : ∀ a b, a < 12 → b < 12 → kn (12 * a + b) = kn (12 * b + a)) {post : Int32 → Prop} (h : post (kinS kn s n n)) : wp_Herd_kinSum (nI n) kg (nI s) post := by
  unfold wp_Herd_kinSum
  rw [← kcS_eq hsym n hn] at h
  exact ⟨n + 1, c_kinSum_a hn hs hkg h n 0 (by omega)⟩
end
