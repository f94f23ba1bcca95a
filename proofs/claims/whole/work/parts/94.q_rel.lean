/-! the relation between the landed class's numbers and the reference's -/
def RH (n M : Nat) (cb cf : Nat → Int32) (kg : Nat → Nat → Int32) (fm kn br sx wt : Nat → Int32) (mo : Int32) : Prop :=
  HR n M cb cf kg mo fm kn br ∧ (∀ a, a < n → (sx a = 0 ↔ M.testBit a = true)) ∧ (∀ a, a < n → sx a = 0 ∨ sx a = 1) ∧ (∀ a b, a < 12 → b < 12 → br (12 * a + b) = 0 ∨ br (12 * a + b) = 1) ∧ (∀ a b, a < 12 → b < 12 → br (12 * a + b) = br (12 * b + a)) ∧
  (∀ a b, a < 12 → b < 12 → (n ≤ a ∨ n ≤ b) → br (12 * a + b) = 0) ∧ (∀ a, n ≤ a → a < 12 → cb a = 0) ∧ (∀ a, a < n → -10000 ≤ wt a ∧ wt a ≤ 10000)
def RLs (n M : Nat) (fm kn br ls wt : Nat → Int32) (lim mo : Int32) (sl : Nat → Int32) (sp ss : Int32) (su : Nat → Int32) : Prop := sp = 0 ∨ ∃ k, 0 < k ∧ k ≤ 6 ∧ sp = nI k ∧ holdL n wt (laM M fm kn br ls lim mo n k 4096 M) sl ss su
def RCh (n : Nat) (ce cf cm : Nat → Int32) (cp cs cn pairs choice choiceSets : Int32) (he she eggs : Nat → Int32) : Prop := (cp = 0 ∧ pairs = 0) ∨ ∃ k S, 0 < k ∧ k ≤ 6 ∧ cp = nI k ∧ pairs = nI k ∧ S < 2 ^ n ∧ cs = nI S ∧ choice = nI S ∧ cn = choiceSets ∧ ∀ i, i < k → ce i = eggs i ∧ ∃ a f, a < n ∧ f < n ∧ cm i = nI a ∧ he i = nI a ∧ cf i = nI f ∧ she i = nI f
def ROu (oa ob : Nat → Int32) (oy years : Int32) (alive yearSets yearWorths : Nat → Int32) : Prop := ∃ y, y ≤ 20 ∧ oy = nI y ∧ years = nI y ∧ ∀ i, i < y → oa i = alive i ∧ yearSets i = (if ob i = (-100000000) then 0 else 1) ∧ yearWorths i = (if ob i = (-100000000) then 0 else ob i)
def RR (hb : Nat → Int32) (hc : Int32) (hf : Nat → Int32) (hl : Int32) (hk : Nat → Nat → Int32) (ht : Nat → Int32) (hm he : Int32) (hw sl : Nat → Int32) (sp ss : Int32) (su ce cf cm : Nat → Int32) (cp cs cn : Int32) (oa ob : Nat → Int32) (oy : Int32)
    (m_animals : Int32) (m_sexes m_worths m_families m_kins m_isBarred : Nat → Int32) (m_limit m_most : Int32) (m_leasts : Nat → Int32) (m_tested m_pairs m_choice m_choiceSets : Int32) (m_he m_she m_eggs : Nat → Int32) (m_years : Int32) (m_alive m_yearSets m_yearWorths : Nat → Int32) : Prop :=
  ∃ n M, hc = nI n ∧ m_animals = nI n ∧ hm = nI M ∧ hl = m_limit ∧ ht = m_leasts ∧ he = m_most ∧ hw = m_worths ∧ RH n M hb hf hk m_families m_kins m_isBarred m_sexes m_worths m_most ∧ RLs n M m_families m_kins m_isBarred m_leasts m_worths m_limit m_most sl sp ss su ∧ RCh n ce cf cm cp cs cn m_pairs m_choice m_choiceSets m_he m_she m_eggs ∧ ROu oa ob oy m_years m_alive m_yearSets m_yearWorths ∧ m_tested = -1
/-! branches on answers that are known -/
theorem n1 {A B : Prop} (a : A) : (¬ (1 : Int32) = 0 → A) ∧ ((1 : Int32) = 0 → B) := ⟨fun _ => a, fun z => absurd z (by decide)⟩
theorem n0 {A B : Prop} (b : B) : (¬ (0 : Int32) = 0 → A) ∧ ((0 : Int32) = 0 → B) := ⟨fun z => absurd rfl z, fun _ => b⟩
theorem e1 {A B : Prop} (b : B) : ((1 : Int32) = 0 → A) ∧ (¬ (1 : Int32) = 0 → B) := ⟨fun z => absurd z (by decide), fun _ => b⟩
theorem e0 {A B : Prop} (a : A) : ((0 : Int32) = 0 → A) ∧ (¬ (0 : Int32) = 0 → B) := ⟨fun _ => a, fun z => absurd rfl z⟩
theorem q1 {x y : Int32} {A B : Prop} (e : x = y) (a : A) : (x = y → A) ∧ (¬ x = y → B) := ⟨fun _ => a, fun z => absurd e z⟩
theorem q0 {x y : Int32} {A B : Prop} (e : ¬ x = y) (b : B) : (x = y → A) ∧ (¬ x = y → B) := ⟨fun z => absurd z e, fun _ => b⟩
theorem p1 {x y : Int32} {A B : Prop} (e : x = y) (b : B) : (¬ x = y → A) ∧ (x = y → B) := ⟨fun z => absurd e z, fun _ => b⟩
theorem p0 {x y : Int32} {A B : Prop} (e : ¬ x = y) (a : A) : (¬ x = y → A) ∧ (x = y → B) := ⟨fun _ => a, fun z => absurd z e⟩
theorem w_w1 {a b c : Int32} {post : Int32 → Prop} (h : b ≤ a ∧ a ≤ c) (hp : post 1) : wp_PairChoice_isWithin a b c post := w_isWithin (fun _ _ => hp) (fun z => absurd h z)
theorem w_w0 {a b c : Int32} {post : Int32 → Prop} (h : ¬ (b ≤ a ∧ a ≤ c)) (hp : post 0) : wp_PairChoice_isWithin a b c post := w_isWithin (fun p q => absurd ⟨p, q⟩ h) (fun _ => hp)
theorem w_i1 {a b c : Int32} {post : Int32 → Prop} (h : b ≤ a ∧ a ≤ c) (hp : post 1) : wp_M_isIn a b c post := w_isIn (fun _ _ => hp) (fun z => absurd h z)
theorem w_i0 {a b c : Int32} {post : Int32 → Prop} (h : ¬ (b ≤ a ∧ a ≤ c)) (hp : post 0) : wp_M_isIn a b c post := w_isIn (fun p q => absurd ⟨p, q⟩ h) (fun _ => hp)
theorem out_na {n a : Nat} (ha : a < n) (hn : n ≤ 12) (z : nI a < 0 ∨ nI n ≤ nI a) : False := z.elim (nI_pos (by omega)) (nI_ge ha (by omega))
theorem w_k1 {n a : Nat} (hn : n ≤ 12) (ha : a < n) {post : Int32 → Prop} (hp : post 1) : wp_Herd_knows (nI n) (nI a) post := w_knows hn (fun _ _ _ => hp) (fun z => (out_na ha hn z).elim)
theorem w_k0 {n : Nat} {x : Int32} (hn : n ≤ 12) (h : x < 0 ∨ nI n ≤ x) {post : Int32 → Prop} (hp : post 0) : wp_Herd_knows (nI n) x post := w_knows hn (fun a ha e => (out_na ha hn (e ▸ h)).elim) (fun _ => hp)
theorem w_a1 {n a : Nat} (hn : n ≤ 12) (ha : a < n) {post : Int32 → Prop} (hp : post 1) : wp_M_isAnimal (nI n) (nI a) post := w_isAnimal hn (fun _ _ _ => hp) (fun z => (out_na ha hn z).elim)
theorem w_a0 {n : Nat} {x : Int32} (hn : n ≤ 12) (h : x < 0 ∨ nI n ≤ x) {post : Int32 → Prop} (hp : post 0) : wp_M_isAnimal (nI n) x post := w_isAnimal hn (fun a ha e => (out_na ha hn (e ▸ h)).elim) (fun _ => hp)
theorem ix_split (n : Nat) (hn : n ≤ 12) (x : Int32) : (x < 0 ∨ nI n ≤ x) ∨ ∃ a, a < n ∧ x = nI a := by
  rcases pk_ix x (n := n) (by omega) with h | h | h
  · exact Or.inl (Or.inl h)
  · exact Or.inl (Or.inr h)
  · exact Or.inr h
theorem w_h1 {s a : Nat} {post : Int32 → Prop} (hs : s < 2 ^ 31) (ha : a < 32) (h : s.testBit a = true) (hp : post 1) : wp_PairChoice_has (nI s) (nI a) post := w_has hs ha (fun z => by rw [h] at z; cases z) (fun _ => hp)
theorem w_h0 {s a : Nat} {post : Int32 → Prop} (hs : s < 2 ^ 31) (ha : a < 32) (h : s.testBit a = false) (hp : post 0) : wp_PairChoice_has (nI s) (nI a) post := w_has hs ha (fun _ => hp) (fun z => by rw [h] at z; cases z)
theorem upd_self (f : Nat → Int32) (k : Nat) : upd f k (f k) = f := by
  funext j
  unfold upd
  by_cases e : j = k
  · rw [if_pos e, e]
  · rw [if_neg e]
theorem RCh_no {n : Nat} {ce cf cm : Nat → Int32} {cs cn choice choiceSets : Int32} {he she eggs : Nat → Int32} : RCh n ce cf cm 0 cs cn 0 choice choiceSets he she eggs := Or.inl ⟨rfl, rfl⟩
theorem w_ff {cp sp : Int32} {post : Int32 → Int32 → Prop} (h : post 0 0) : wp_PairChoice_forgetFindings cp sp post := h
theorem w_lv {p : Int32} {post : Int32 → Prop} (h : post 0) : wp_M_leave p post := h
theorem nI_m1 {m : Nat} (h : m < 2 ^ 31) : ¬ nI m = -1 := fun z => by
  have h1 := nI_toInt h
  rw [z, show (-1 : Int32).toInt = -1 from by decide] at h1
  omega
theorem wsT_no {wt : Nat → Int32} {tb : Int32} {s : Nat} : ∀ m, m ≤ 12 → wsT wt (-1) tb s m = wsm wt s m := by
  intro m
  induction m with
  | zero => intro _; rfl
  | succ m ih =>
    intro hm
    have hne : ¬ nI m = -1 := nI_m1 (by omega)
    rw [wsT, wsm, ih (by omega), if_neg hne]
