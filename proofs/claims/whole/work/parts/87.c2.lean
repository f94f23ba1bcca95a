/-! the landed class: bitCount, families, the rules -/
def bcA (x0 : Int32) : Int32 := (((x0 - (((x0.toUInt32 >>> ((1 : Int32).toUInt32 &&& Int32.toUInt32 31)).toInt32) &&& 1431655765)) &&& 858993459) + ((((x0 - (((x0.toUInt32 >>> ((1 : Int32).toUInt32 &&& Int32.toUInt32 31)).toInt32) &&& 1431655765)).toUInt32 >>> ((2 : Int32).toUInt32 &&& Int32.toUInt32 31)).toInt32) &&& 858993459))
def bcB (y1 : Int32) : Int32 := (((y1 + ((y1.toUInt32 >>> ((4 : Int32).toUInt32 &&& Int32.toUInt32 31)).toInt32)) &&& 252645135) + ((((y1 + ((y1.toUInt32 >>> ((4 : Int32).toUInt32 &&& Int32.toUInt32 31)).toInt32)) &&& 252645135).toUInt32 >>> ((8 : Int32).toUInt32 &&& Int32.toUInt32 31)).toInt32))
def bcE (x0 : Int32) : Int32 := ((bcB (bcA x0) + (((bcB (bcA x0)).toUInt32 >>> ((16 : Int32).toUInt32 &&& Int32.toUInt32 31)).toInt32)) &&& 63)
theorem w_bc0 {x : Int32} {post : Int32 → Prop} (h : post (bcE x)) : wp_Integer_bitCount x post := by
  unfold wp_Integer_bitCount
  intro y1 e1 y2 e2
  have h1 : y1 = bcA x := e1
  subst h1
  have h2 : y2 = bcB (bcA x) := e2
  subst h2
  exact h
set_option maxRecDepth 100000 in
theorem bc12 : ∀ x, x < 4096 → bcE (nI x) = nI (pcn 12 x) := by decide +kernel
section
theorem fcn_pcn {n s : Nat} {fm : Nat → Int32} {f Fm : Nat} (h : ∀ a, a < n → (Fm.testBit a = true ↔ fm a = nI f)) : ∀ m, m ≤ n → fcn fm f s m = pcn m (s &&& Fm) := by
  intro m
  induction m with
  | zero => intro _; rfl
  | succ m ih =>
    intro hm
    rw [fcn, pcn, ih (by omega), Nat.testBit_and]
    have hh := h m (by omega)
    cases h1 : s.testBit m <;> cases h2 : Fm.testBit m
    · simp
    · simp
    · have : ¬ fm m = nI f := fun q => by rw [hh.2 q] at h2; cases h2
      simp [this]
    · have : fm m = nI f := hh.1 h2
      simp [this]
theorem pcn_12 {n : Nat} {x : Nat} (hx : x < 2 ^ n) (hn : n ≤ 12) : pcn 12 x = pcn n x := by
  have : 12 = n + (12 - n) := by omega
  rw [this]
  exact pcn_more (fun i h1 _ => tb_lt hx h1)
end
theorem w_bc {x : Nat} {post : Int32 → Prop} (hx : x < 4096) (h : post (nI (pcn 12 x))) : wp_Integer_bitCount (nI x) post := by
  have e := bc12 x hx
  rw [← e] at h
  exact w_bc0 h
section
theorem s4096 {n : Nat} {x : Nat} (hx : x < 2 ^ n) (hn : n ≤ 12) : x < 4096 := Nat.lt_of_lt_of_le hx (Nat.pow_le_pow_right (by decide) hn)
theorem and_lt {n : Nat} {x y : Nat} (hx : x < 2 ^ n) : x &&& y < 2 ^ n := tb_small (fun i hi => by rw [Nat.testBit_and, tb_lt hx hi]; rfl)
theorem dif_lt {n : Nat} {x y : Nat} (hx : x < 2 ^ n) : dif x y < 2 ^ n := tb_small (fun i hi => by rw [dif_bit, tb_lt hx hi]; rfl)
/-- the families as masks -/
def famM (n : Nat) (fm cf : Nat → Int32) : Prop := ∀ f, f < 8 → ∃ Fm, cf f = nI Fm ∧ Fm < 2 ^ n ∧ ∀ a, a < n → (Fm.testBit a = true ↔ fm a = nI f)
theorem c_fam_a {n s : Nat} (hn : n ≤ 12) (hs : s < 2 ^ n) {fm cf ls : Nat → Int32} {mo : Int32} (hcf : famM n fm cf) (hmo : 0 ≤ mo) {post : Int32 → Prop} (h : post (if famOK fm ls mo s n 8 = true then 1 else 0)) : ∀ k f : Nat, f + k = 8 → famOK fm ls mo s n f = true → wp_Herd_keepsFamilies_L2 cf ls mo (nI s) post (k + 1) (nI f) := by
  have hst : ∀ k f : Nat, f + k = 8 → famOK fm ls mo s n f = false → famOK fm ls mo s n 8 = false := by
    intro k
    induction k with
    | zero => intro f hf h0; rw [show f = 8 by omega] at h0; exact h0
    | succ k ih => intro f hf h0; exact ih (f + 1) (by omega) (by rw [famOK, h0]; rfl)
  intro k
  induction k with
  | zero =>
    intro f hf hc
    rw [wp_Herd_keepsFamilies_L2]
    refine pk_le 8 f (fun _ => ?_) (fun h => absurd h (by omega))
    rw [show f = 8 by omega] at hc
    rw [if_pos hc] at h
    exact h
  | succ k ih =>
    intro f hf hc
    rw [wp_Herd_keepsFamilies_L2]
    refine pk_le 8 f (fun h => absurd h (by omega)) (fun _ => ⟨vp_in_nI (by omega) (by decide), ?_⟩)
    obtain ⟨Fm, e1, e2, e3⟩ := hcf f (by omega)
    rw [nI_clamp (by omega), e1, mk_and, nI_1]
    have hlt : s &&& Fm < 2 ^ n := and_lt hs
    refine w_bc (s4096 hlt hn) ⟨vp_in_nI (by omega) (by decide), ?_⟩
    rw [pcn_12 hlt hn, ← fcn_pcn (s := s) e3 n (Nat.le_refl _)]
    have hno : famOK1 fm ls mo s n f = false → famOK fm ls mo s n 8 = false := fun q => hst k (f + 1) (by omega) (by rw [famOK, q, Bool.and_false])
    have hyes : famOK1 fm ls mo s n f = true → wp_Herd_keepsFamilies_L2 cf ls mo (nI s) post (k + 1) (nI (f + 1)) := fun q => ih (f + 1) (by omega) (by rw [famOK, hc, q]; rfl)
    unfold famOK1 at hno hyes
    have nl : ∀ x y : Int32, (¬ x < y) = (y ≤ x) := fun x y => by rw [eq_iff_iff, Int32.lt_iff_toInt_lt, Int32.le_iff_toInt_le]; omega
    refine ⟨fun q => ?_, fun q => ⟨fun q1 => ?_, fun q1 => ⟨fun q2 => ?_, fun q2 => ?_⟩⟩⟩
    · have h3 : ¬ ls f ≤ nI (fcn fm f s n) := fun z => by rw [← nl] at z; exact z q
      rw [hno (by simp [h3])] at h
      exact h
    · rw [nl] at q
      have h0 : mo = 0 := by
        apply Int32.toInt_inj.1
        rw [Int32.le_iff_toInt_le] at q1 hmo
        omega
      exact hyes (by simp [h0, q])
    · rw [nl] at q
      exact hyes (by simp [q2, q])
    · have h0 : ¬ mo = 0 := fun z => q1 (by rw [z]; decide)
      rw [hno (by simp [h0, q2])] at h
      exact h
theorem u_keepsFamilies {n s : Nat} (hn : n ≤ 12) (hs : s < 2 ^ n) {fm cf ls : Nat → Int32} {mo : Int32} (hcf : famM n fm cf) (hmo : 0 ≤ mo) {post : Int32 → Prop} (h : post (if famOK fm ls mo s n 8 = true then 1 else 0)) : wp_Herd_keepsFamilies cf ls mo (nI s) post := by
  unfold wp_Herd_keepsFamilies
  exact ⟨9, c_fam_a hn hs hcf hmo h 8 0 (by omega) rfl⟩
theorem u_keepsRules {n s : Nat} (hn : n ≤ 12) (hs : s < 2 ^ n) {fm cf ls : Nat → Int32} {mo lim : Int32} {kg : Nat → Nat → Int32} {kn : Nat → Int32} {k : Nat} (hcf : famM n fm cf) (hmo : 0 ≤ mo) (hkg : ∀ a b, a < 12 → b < 12 → kg a b = kn (12 * a + b)) (hsym : ∀ a b, a < 12 → b < 12 → kn (12 * a + b) = kn (12 * b + a)) {post : Int32 → Prop} (h : post (if fitsS fm kn ls lim mo n k s = true then 1 else 0)) : wp_Herd_keepsRules (nI n) cf lim kg ls mo (nI s) (nI k) post := by
  unfold wp_Herd_keepsRules
  have hs31 : s < 2 ^ 31 := by have := s4096 hs hn; omega
  refine u_keepsFamilies hn hs hcf hmo ?_
  unfold fitsS at h
  cases hc : famOK fm ls mo s n 8
  · refine ⟨fun _ => ?_, fun z => absurd rfl z⟩
    simpa [hc] using h
  · refine ⟨fun z => absurd z (by decide), fun _ => u_kinSum hn hs31 hkg hsym ⟨fun q => ?_, fun q => ?_⟩⟩
    · have h2 : ¬ kinS kn s n n ≤ 4 * nI k * nI k * lim := fun z => by
        rw [Int32.lt_iff_toInt_lt] at q; rw [Int32.le_iff_toInt_le] at z; omega
      simpa [h2] using h
    · have h2 : kinS kn s n n ≤ 4 * nI k * nI k * lim := by
        rw [Int32.lt_iff_toInt_lt] at q; rw [Int32.le_iff_toInt_le]; omega
      simpa [h2, hc] using h
end
