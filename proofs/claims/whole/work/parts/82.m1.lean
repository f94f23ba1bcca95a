/-! the reference's own small methods -/
theorem w_isIn {a b c : Int32} {post : Int32 → Prop} (h1 : b ≤ a → a ≤ c → post 1) (h0 : ¬ (b ≤ a ∧ a ≤ c) → post 0) : wp_M_isIn a b c post := by
  unfold wp_M_isIn
  simp only [Int32.lt_iff_toInt_lt, Int32.le_iff_toInt_le] at *
  refine ⟨fun h => h0 (by omega), fun h => ⟨fun h2 => h0 (by omega), fun h2 => h1 (by omega) (by omega)⟩⟩
theorem w_isWithin {a b c : Int32} {post : Int32 → Prop} (h1 : b ≤ a → a ≤ c → post 1) (h0 : ¬ (b ≤ a ∧ a ≤ c) → post 0) : wp_PairChoice_isWithin a b c post := by
  unfold wp_PairChoice_isWithin
  simp only [Int32.lt_iff_toInt_lt, Int32.le_iff_toInt_le] at *
  refine ⟨fun h => h0 (by omega), fun h => ⟨fun h2 => h0 (by omega), fun h2 => h1 (by omega) (by omega)⟩⟩
/-- a number is that of an animal -/
theorem w_isAnimal {n : Nat} (hn : n ≤ 12) {x : Int32} {post : Int32 → Prop} (h1 : ∀ a : Nat, a < n → x = nI a → post 1) (h0 : (x < 0 ∨ nI n ≤ x) → post 0) : wp_M_isAnimal (nI n) x post := by
  unfold wp_M_isAnimal
  have hs : (nI n - 1).toInt = (n : Int) - 1 := pk_sub_toInt (a := n) (b := 1) (by omega) (by omega)
  have hN : (nI n).toInt = (n : Int) := nI_toInt (by omega)
  refine w_isIn (fun p q => ?_) (fun p => ?_)
  · rw [Int32.le_iff_toInt_le, hs] at q
    obtain ⟨j, hj, rfl⟩ := nI_of (x := x) (by rw [Int32.lt_iff_toInt_lt]; rw [Int32.le_iff_toInt_le] at p; omega)
    rw [nI_toInt hj] at q
    exact h1 j (by omega) rfl
  · apply h0
    rw [Int32.le_iff_toInt_le, Int32.le_iff_toInt_le, hs] at p
    rw [Int32.lt_iff_toInt_lt, Int32.le_iff_toInt_le, hN]
    have : (0 : Int32).toInt = 0 := rfl
    omega
theorem w_knows {n : Nat} (hn : n ≤ 12) {x : Int32} {post : Int32 → Prop} (h1 : ∀ a : Nat, a < n → x = nI a → post 1) (h0 : (x < 0 ∨ nI n ≤ x) → post 0) : wp_Herd_knows (nI n) x post := by
  unfold wp_Herd_knows
  refine ⟨fun p => h0 (Or.inl p), fun p => ⟨fun q => h0 (Or.inr q), fun q => ?_⟩⟩
  rcases pk_ix x (n := n) (by omega) with h | h | ⟨j, hj, e⟩
  · exact absurd h p
  · exact absurd h q
  · exact h1 j hj e
theorem ix12 (a b : Nat) : (12 * nI a) + nI b = nI (12 * a + b) := by
  rw [show (12 : Int32) = nI 12 from rfl, pk_mul, nI_add]
theorem ix12c {a b : Nat} (ha : a < 12) (hb : b < 12) : ((12 * nI a) + nI b).toNatClampNeg = 12 * a + b := by rw [ix12, nI_clamp (by omega)]
theorem ix12i {a b : Nat} (ha : a < 12) (hb : b < 12) : vp_in ((12 * nI a) + nI b) 144 := by rw [ix12]; exact vp_in_nI (by omega) (by decide)
/-- the branches on a bit of a mask -/
theorem hb1 {s a : Nat} {A B : Prop} (hs : s < 2 ^ 31) (ha : a < 32) (f : s.testBit a = false → A) (g : s.testBit a = true → B) : (¬ ((nI s >>> (nI a &&& 31)) &&& 1) = 1 → A) ∧ (((nI s >>> (nI a &&& 31)) &&& 1) = 1 → B) := by
  rw [mk_has hs ha]
  cases h : s.testBit a
  · exact ⟨fun _ => f h, fun q => absurd q (by decide)⟩
  · exact ⟨fun q => absurd rfl q, fun _ => g h⟩
theorem hb1' {s a : Nat} {A B : Prop} (hs : s < 2 ^ 31) (ha : a < 32) (g : s.testBit a = true → B) (f : s.testBit a = false → A) : (((nI s >>> (nI a &&& 31)) &&& 1) = 1 → B) ∧ (¬ ((nI s >>> (nI a &&& 31)) &&& 1) = 1 → A) := ⟨(hb1 hs ha f g).2, (hb1 hs ha f g).1⟩
theorem hb0 {s a : Nat} {A B : Prop} (hs : s < 2 ^ 31) (ha : a < 32) (f : s.testBit a = false → A) (g : s.testBit a = true → B) : (((nI s >>> (nI a &&& 31)) &&& 1) = 0 → A) ∧ (¬ ((nI s >>> (nI a &&& 31)) &&& 1) = 0 → B) := by
  rw [mk_has hs ha]
  cases h : s.testBit a
  · exact ⟨fun _ => f h, fun q => absurd rfl q⟩
  · exact ⟨fun q => absurd q (by decide), fun _ => g h⟩
theorem hb0' {s a : Nat} {A B : Prop} (hs : s < 2 ^ 31) (ha : a < 32) (g : s.testBit a = true → B) (f : s.testBit a = false → A) : (¬ ((nI s >>> (nI a &&& 31)) &&& 1) = 0 → B) ∧ (((nI s >>> (nI a &&& 31)) &&& 1) = 0 → A) := ⟨(hb0 hs ha f g).2, (hb0 hs ha f g).1⟩
theorem w_has {s a : Nat} {post : Int32 → Prop} (hs : s < 2 ^ 31) (ha : a < 32) (f : s.testBit a = false → post 0) (g : s.testBit a = true → post 1) : wp_PairChoice_has (nI s) (nI a) post := by
  unfold wp_PairChoice_has
  exact hb0 hs ha f g
theorem w_bit {a : Nat} {post : Int32 → Prop} (ha : a < 31) (h : post (nI (2 ^ a))) : wp_PairChoice_bit (nI a) post := by
  unfold wp_PairChoice_bit
  rw [mk_bit ha]
  exact h
theorem w_all {n : Nat} {post : Int32 → Prop} (hn : n ≤ 12) (h : post (nI (2 ^ n - 1))) : wp_M_all (nI n) post := by
  unfold wp_M_all
  rw [mk_bit (by omega), show (1 : Int32) = nI 1 from rfl, pk_sub (Nat.one_le_two_pow)]
  exact h
theorem w_hall {n : Nat} {post : Int32 → Prop} (hn : n ≤ 12) (h : post (nI (2 ^ n - 1))) : wp_Herd_all (nI n) post := by
  unfold wp_Herd_all
  refine w_bit (by omega) ?_
  rw [show (1 : Int32) = nI 1 from rfl, pk_sub (Nat.one_le_two_pow)]
  exact h
section
theorem m_kinOf_b {n s : Nat} (hn : n ≤ 12) (hs : s < 2 ^ 31) {kn : Nat → Int32} {post : Int32 → Prop} {K : Int32 → Int32 → Prop} {a : Nat} (ha : a < 12) (acc : Int32) : ∀ k b : Nat, b + k = n → K (if s.testBit a = true then acc + rowS kn s a n else acc) (nI a + 1) → wp_M_kinOf_L15 (nI n) kn (nI s) (nI a) post K (k + 1) (if s.testBit a = true then acc + rowS kn s a b else acc) (nI b) := by
  intro k
  induction k with
  | zero =>
    intro b hb hK
    rw [wp_M_kinOf_L15]
    refine pk_le n b (fun _ => ?_) (fun h => absurd h (by omega))
    rw [show b = n by omega]
    exact hK
  | succ k ih =>
    intro b hb hK
    rw [wp_M_kinOf_L15]
    refine pk_le n b (fun h => absurd h (by omega)) (fun _ => ?_)
    have ih' := ih (b + 1) (by omega) hK
    rw [nI_1]
    refine hb1 hs (by omega) (fun ht => ?_) (fun ht => ?_)
    · rw [ht, if_neg (by decide)]
      rw [ht, if_neg (by decide)] at ih'
      exact ih'
    · rw [ht, if_pos rfl]
      rw [ht, if_pos rfl, rowS] at ih'
      refine hb1 hs (by omega) (fun hu => ?_) (fun hu => ?_)
      · rw [hu, if_neg (by decide)] at ih'
        exact ih'
      · rw [hu, if_pos rfl, ← Int32.add_assoc] at ih'
        rw [ix12c ha (by omega)]
        exact ⟨ix12i ha (by omega), ih'⟩
theorem m_kinOf_a {n s : Nat} (hn : n ≤ 12) (hs : s < 2 ^ 31) {kn : Nat → Int32} {post : Int32 → Prop} (h : post (kinS kn s n n)) : ∀ k a : Nat, a + k = n → wp_M_kinOf_L4 (nI n) kn (nI s) post (k + 1) (kinS kn s n a) (nI a) := by
  intro k
  induction k with
  | zero =>
    intro a ha
    rw [wp_M_kinOf_L4]
    refine pk_le n a (fun _ => ?_) (fun h => absurd h (by omega))
    rw [show a = n by omega]
    exact h
  | succ k ih =>
    intro a ha
    rw [wp_M_kinOf_L4]
    refine pk_le n a (fun h => absurd h (by omega)) (fun _ => ⟨n + 1, ?_⟩)
    have q := m_kinOf_b hn hs (kn := kn) (post := post) (K := fun x2 x3 => wp_M_kinOf_L4 (nI n) kn (nI s) post (k + 1) x2 x3) (a := a) (by omega) (kinS kn s n a) n 0 (by omega) (by
      have ih' := ih (a + 1) (by omega)
      rw [nI_1]
      rw [kinS] at ih'
      exact ih')
    rw [rowS, Int32.add_zero, ite_self] at q
    exact q
theorem w_kinOf {n s : Nat} (hn : n ≤ 12) (hs : s < 2 ^ 31) {kn : Nat → Int32} {post : Int32 → Prop} (h : post (kinS kn s n n)) : wp_M_kinOf (nI n) kn (nI s) post := by
  unfold wp_M_kinOf
  exact ⟨n + 1, m_kinOf_a hn hs h n 0 (by omega)⟩
theorem m_worthOf_a {n s : Nat} (hn : n ≤ 12) (hs : s < 2 ^ 31) {wt : Nat → Int32} {td tb : Int32} {post : Int32 → Prop} (h : post (wsT wt td tb s n)) : ∀ k a : Nat, a + k = n → wp_M_worthOf_L4 (nI n) td tb wt (nI s) post (k + 1) (wsT wt td tb s a) (nI a) := by
  intro k
  induction k with
  | zero =>
    intro a ha
    rw [wp_M_worthOf_L4]
    refine pk_le n a (fun _ => ?_) (fun h => absurd h (by omega))
    rw [show a = n by omega]
    exact h
  | succ k ih =>
    intro a ha
    rw [wp_M_worthOf_L4]
    refine pk_le n a (fun h => absurd h (by omega)) (fun _ => ?_)
    have ih' := ih (a + 1) (by omega)
    rw [wsT] at ih'
    rw [nI_1, nI_clamp (by omega)]
    refine hb1 hs (by omega) (fun ht => ?_) (fun ht => ⟨vp_in_nI (by omega) (by decide), fun he => ?_, fun he => ?_⟩)
    · rw [ht, if_neg (by decide)] at ih'
      exact ih'
    · rw [ht, if_pos rfl, if_neg he] at ih'
      rw [Int32.add_zero]
      exact ih'
    · rw [ht, if_pos rfl, if_pos he] at ih'
      exact ih'
theorem w_worthOf {n s : Nat} (hn : n ≤ 12) (hs : s < 2 ^ 31) {wt : Nat → Int32} {td tb : Int32} {post : Int32 → Prop} (h : post (wsT wt td tb s n)) : wp_M_worthOf (nI n) td tb wt (nI s) post := by
  unfold wp_M_worthOf
  exact ⟨n + 1, m_worthOf_a hn hs h n 0 (by omega)⟩
/-- the families of a set -/
theorem m_fam_b {n s : Nat} (hn : n ≤ 12) (hs : s < 2 ^ 31) {fm ls : Nat → Int32} {mo : Int32} {post : Int32 → Prop} {K : Int32 → Int32 → Prop} {f : Nat} (hf : f < 8) (hK : K (if famOK1 fm ls mo s n f = true then 1 else 0) (nI f + 1)) : ∀ k a : Nat, a + k = n → wp_M_fitsFamilies_L20 (nI n) fm ls mo (nI s) (nI f) post K (k + 1) (nI (fcn fm f s a)) (nI a) := by
  intro k
  induction k with
  | zero =>
    intro a ha
    rw [wp_M_fitsFamilies_L20]
    refine pk_le n a (fun _ => ?_) (fun h => absurd h (by omega))
    rw [show a = n by omega, nI_clamp (by omega)]
    have hi : vp_in (nI f) 8 := vp_in_nI hf (by decide)
    unfold famOK1 at hK
    have nl : ∀ x y : Int32, (¬ x < y) = (y ≤ x) := fun x y => by rw [eq_iff_iff, Int32.lt_iff_toInt_lt, Int32.le_iff_toInt_le]; omega
    refine ⟨fun h0 => ⟨hi, fun h1 => ?_, fun h1 => ?_⟩, fun h0 => ⟨fun h1 => ?_, fun h1 => ⟨hi, fun h2 => ?_, fun h2 => ?_⟩⟩⟩
    · rw [if_neg] at hK
      · exact hK
      · have h2 : ¬ ls f ≤ nI (fcn fm f s n) := fun q => by rw [← nl] at q; exact q h1
        simp [h2]
    · rw [nl] at h1
      simpa [h0, h1] using hK
    · have h2 : ¬ nI (fcn fm f s n) ≤ mo := fun q => by rw [← nl] at q; exact q h1
      simpa [h0, h2] using hK
    · have h3 : ¬ ls f ≤ nI (fcn fm f s n) := fun q => by rw [← nl] at q; exact q h2
      simpa [h3] using hK
    · rw [nl] at h1 h2
      simpa [h1, h2] using hK
  | succ k ih =>
    intro a ha
    rw [wp_M_fitsFamilies_L20]
    refine pk_le n a (fun h => absurd h (by omega)) (fun _ => ?_)
    have ih' := ih (a + 1) (by omega)
    rw [fcn] at ih'
    rw [nI_1, nI_1, nI_clamp (by omega)]
    refine hb1 hs (by omega) (fun ht => ?_) (fun ht => ⟨vp_in_nI (by omega) (by decide), fun he => ?_, fun he => ?_⟩)
    · rw [if_neg (fun q => by rw [ht] at q; cases q.1)] at ih'
      exact ih'
    · rw [if_neg (fun q => he q.2)] at ih'
      exact ih'
    · rw [if_pos ⟨ht, he⟩] at ih'
      exact ih'
theorem m_fam_a {n s : Nat} (hn : n ≤ 12) (hs : s < 2 ^ 31) {fm ls : Nat → Int32} {mo : Int32} {post : Int32 → Prop} (h : post (if famOK fm ls mo s n 8 = true then 1 else 0)) : ∀ k f : Nat, f + k = 8 → wp_M_fitsFamilies_L4 (nI n) fm ls mo (nI s) post (k + 1) (if famOK fm ls mo s n f = true then 1 else 0) (nI f) := by
  have hz : ∀ b : Bool, ((if b = true then (1 : Int32) else 0) = 0 ∨ (if b = true then (1 : Int32) else 0) = 1) := fun b => by cases b <;> decide
  have hst : ∀ k f : Nat, f + k = 8 → famOK fm ls mo s n f = false → famOK fm ls mo s n 8 = false := by
    intro k
    induction k with
    | zero => intro f hf h0; rw [show f = 8 by omega] at h0; exact h0
    | succ k ih => intro f hf h0; exact ih (f + 1) (by omega) (by rw [famOK, h0]; rfl)
  intro k
  induction k with
  | zero =>
    intro f hf
    rw [wp_M_fitsFamilies_L4]
    refine pk_le 8 f (fun _ => ?_) (fun h => absurd h (by omega))
    rw [show f = 8 by omega]
    exact ⟨hz _, h⟩
  | succ k ih =>
    intro f hf
    rw [wp_M_fitsFamilies_L4]
    refine pk_le 8 f (fun h => absurd h (by omega)) (fun _ => ?_)
    cases hc : famOK fm ls mo s n f
    · refine ⟨fun _ => ⟨Or.inl rfl, ?_⟩, fun q => absurd rfl q⟩
      rw [hst (k + 1) f hf hc] at h
      exact h
    · refine ⟨fun q => absurd q (by decide), fun _ => ⟨n + 1, ?_⟩⟩
      refine m_fam_b hn hs (by omega) ?_ n 0 (by omega)
      have ih' := ih (f + 1) (by omega)
      rw [famOK, hc, Bool.true_and] at ih'
      rw [nI_1]
      exact ih'
theorem w_fitsFamilies {n s : Nat} (hn : n ≤ 12) (hs : s < 2 ^ 31) {fm ls : Nat → Int32} {mo : Int32} {post : Int32 → Prop} (h : post (if famOK fm ls mo s n 8 = true then 1 else 0)) : wp_M_fitsFamilies (nI n) fm ls mo (nI s) post := by
  unfold wp_M_fitsFamilies
  exact ⟨9, m_fam_a hn hs h 8 0 (by omega)⟩
theorem w_fits {n s : Nat} (hn : n ≤ 12) (hs : s < 2 ^ 31) {fm kn ls : Nat → Int32} {lim mo : Int32} {k : Nat} {post : Int32 → Prop} (h : post (if fitsS fm kn ls lim mo n k s = true then 1 else 0)) : wp_M_fits (nI n) fm kn ls lim mo (nI s) (nI k) post := by
  unfold wp_M_fits
  refine w_kinOf hn hs ?_
  unfold fitsS at h
  refine ⟨fun h1 => ?_, fun h1 => w_fitsFamilies hn hs ?_⟩
  · have h2 : ¬ kinS kn s n n ≤ 4 * nI k * nI k * lim := fun q => by
      rw [Int32.lt_iff_toInt_lt] at h1; rw [Int32.le_iff_toInt_le] at q; omega
    simpa [h2] using h
  · have h2 : kinS kn s n n ≤ 4 * nI k * nI k * lim := by
      rw [Int32.lt_iff_toInt_lt] at h1; rw [Int32.le_iff_toInt_le]; omega
    cases hc : famOK fm ls mo s n 8
    · refine ⟨fun _ => ?_, fun q => absurd rfl q⟩
      simpa [hc] using h
    · refine ⟨fun q => absurd q (by decide), fun _ => ?_⟩
      simpa [h2, hc] using h
end
