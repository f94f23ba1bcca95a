/-! the landed class: the best of the list, the greatest sums -/
/-- no sum of worths is so small -/
def bigS (ws : Nat → Int32) (l : List Nat) : Prop := ∀ s, s ∈ l → (-100000000 : Int32) < ws s
theorem take_succ' {l : List Nat} {i a : Nat} (h : l[i]? = some a) : l.take (i + 1) = l.take i ++ [a] := by
  rw [List.take_succ, h]
  rfl
theorem get_some {l : List Nat} {i : Nat} (h : i < l.length) : ∃ a, l[i]? = some a ∧ a ∈ l := ⟨l[i], List.getElem?_eq_getElem h, List.getElem_mem h⟩
section
theorem c_best_a {n : Nat} {wt li su : Nat → Int32} {si : Int32} {l : List Nat} (hL : holdL n wt l li si su) (hl : l.length ≤ 400) (hb : bigS (fun s => wsm wt s n) l) {post : Int32 → Prop} (hp : post (nI ((bst (fun s => wsm wt s n) l).getD 0))) : ∀ q i : Nat, i + q = l.length → wp_SetList_best_L7 li (nI l.length) su post (q + 1) (nI ((bst (fun s => wsm wt s n) (l.take i)).getD 0)) (((bst (fun s => wsm wt s n) (l.take i)).map (fun s => wsm wt s n)).getD (-100000000)) (nI i) := by
  intro q
  induction q with
  | zero =>
    intro i hi
    rw [wp_SetList_best_L7]
    refine pk_le l.length i (fun _ => ?_) (fun h => absurd h (by omega))
    rw [List.take_of_length_le (by omega)]
    exact hp
  | succ q ih =>
    intro i hi
    rw [wp_SetList_best_L7]
    obtain ⟨a, ha, hm⟩ := get_some (l := l) (i := i) (by omega)
    obtain ⟨e1, e2⟩ := hL.2 i a ha
    have ih' := ih (i + 1) (by omega)
    rw [take_succ' ha, bst_add] at ih'
    have hin : vp_in (nI i) 400 := vp_in_nI (by omega) (by decide)
    refine pk_le l.length i (fun h => absurd h (by omega)) (fun _ => ⟨hin, ?_⟩)
    rw [nI_clamp (by omega), nI_1, e1, e2]
    cases hc : bst (fun s => wsm wt s n) (l.take i) with
    | none =>
      rw [hc] at ih'
      exact ⟨fun _ => ⟨hin, hin, ih'⟩, fun z => absurd (hb a hm) z⟩
    | some b =>
      rw [hc] at ih'
      unfold bstep at ih'
      dsimp only at ih'
      refine ⟨fun hlt => ⟨hin, hin, ?_⟩, fun hlt => ⟨hin, fun hne => ?_, fun heq => ⟨hin, ?_⟩⟩⟩
      · have hlt' : wsm wt b n < wsm wt a n := hlt
        rw [if_pos (Or.inl hlt')] at ih'
        exact ih'
      · rw [if_neg (fun z => z.elim hlt (fun w => hne w.1))] at ih'
        exact ih'
      · unfold wp_SetList_goesBefore
        refine ⟨fun hE => ⟨fun _ => ?_, fun z => absurd rfl z⟩, fun hE => ⟨fun z => absurd z (by decide), fun _ => ⟨hin, hin, ?_⟩⟩⟩
        · rw [if_neg (fun z => z.elim hlt (fun w => w.2 hE))] at ih'
          exact ih'
        · rw [if_pos (Or.inr ⟨heq, hE⟩)] at ih'
          exact ih'
theorem u_best {n : Nat} {wt li su : Nat → Int32} {si : Int32} {l : List Nat} (hL : holdL n wt l li si su) (hl : l.length ≤ 400) (hb : bigS (fun s => wsm wt s n) l) {post : Int32 → Prop} (hp : post (nI ((bst (fun s => wsm wt s n) l).getD 0))) : wp_SetList_best li si su post := by
  unfold wp_SetList_best
  rw [hL.1]
  exact ⟨l.length + 1, c_best_a hL hl hb hp l.length 0 (by omega)⟩
/-- the greatest worth of a list -/
def mxS (ws : Nat → Int32) (l : List Nat) : Int32 := ((bst ws l).map ws).getD (-100000000)
theorem mxS_add {ws : Nat → Int32} {l : List Nat} {s : Nat} (hb : (-100000000 : Int32) < ws s) : mxS ws (l ++ [s]) = if mxS ws l < ws s then ws s else mxS ws l := by
  unfold mxS
  rw [bst_add]
  cases hc : bst ws l with
  | none =>
    show ws s = if (-100000000 : Int32) < ws s then ws s else -100000000
    rw [if_pos hb]
  | some b =>
    unfold bstep
    dsimp only
    show (Option.map ws (if _ then some s else some b)).getD (-100000000) = if ws b < ws s then ws s else ws b
    by_cases h : ws b < ws s
    · rw [if_pos (Or.inl h), if_pos h]
      rfl
    · rw [if_neg h]
      split
      · rename_i h2
        rcases h2 with h2 | h2
        · exact absurd h2 h
        · exact h2.1
      · rfl
theorem c_among_a {n : Nat} {wt li su : Nat → Int32} {si : Int32} {l : List Nat} (hL : holdL n wt l li si su) (hl : l.length ≤ 400) {A : Nat} (hA : A < 2 ^ 31) (h4 : ∀ s, s ∈ l → s < 4096) (hb : bigS (fun s => wsm wt s n) l) {post : Int32 → Prop} (hp : post (mxS (fun s => wsm wt s n) (l.filter (fun s => decide (dif s A = 0))))) : ∀ q i : Nat, i + q = l.length → wp_SetList_greatestSumAmong_L5 li (nI l.length) su (nI A) post (q + 1) (mxS (fun s => wsm wt s n) ((l.take i).filter (fun s => decide (dif s A = 0)))) (nI i) := by
  intro q
  induction q with
  | zero =>
    intro i hi
    rw [wp_SetList_greatestSumAmong_L5]
    refine pk_le l.length i (fun _ => ?_) (fun h => absurd h (by omega))
    rw [List.take_of_length_le (by omega)]
    exact hp
  | succ q ih =>
    intro i hi
    rw [wp_SetList_greatestSumAmong_L5]
    obtain ⟨a, ha, hm⟩ := get_some (l := l) (i := i) (by omega)
    obtain ⟨e1, e2⟩ := hL.2 i a ha
    have ih' := ih (i + 1) (by omega)
    rw [take_succ' ha, List.filter_append] at ih'
    have hin : vp_in (nI i) 400 := vp_in_nI (by omega) (by decide)
    refine pk_le l.length i (fun h => absurd h (by omega)) (fun _ => ⟨hin, ?_⟩)
    have hd : dif a A < 2 ^ 31 := by
      have := tb_small (x := dif a A) (n := 12) (fun i hi => by rw [dif_bit, tb_lt (n := 12) (h4 a hm) hi]; rfl)
      omega
    rw [nI_clamp (by omega), nI_1, e1, e2, mk_andn, mk_z hd]
    refine ⟨fun h => ?_, fun h => ⟨hin, ?_⟩⟩
    · rw [List.filter_cons, if_neg (by simpa using h), List.filter_nil, List.append_nil] at ih'
      exact ih'
    · rw [List.filter_cons, if_pos (by simpa using h), List.filter_nil, mxS_add (ws := fun s => wsm wt s n) (s := a) (hb a hm)] at ih'
      exact ih'
theorem u_among {n : Nat} {wt li su : Nat → Int32} {si : Int32} {l : List Nat} (hL : holdL n wt l li si su) (hl : l.length ≤ 400) {A : Nat} (hA : A < 2 ^ 31) (h4 : ∀ s, s ∈ l → s < 4096) (hb : bigS (fun s => wsm wt s n) l) {post : Int32 → Prop} (hp : post (mxS (fun s => wsm wt s n) (l.filter (fun s => decide (dif s A = 0))))) : wp_SetList_greatestSumAmong li si su (nI A) post := by
  unfold wp_SetList_greatestSumAmong
  rw [hL.1]
  exact ⟨l.length + 1, c_among_a hL hl hA h4 hb hp l.length 0 (by omega)⟩
/-- one animal's worth being so much more -/
theorem wsT_eq {wt : Nat → Int32} {a : Nat} {d : Int32} {s : Nat} (ha : a < 2 ^ 31) : ∀ m, m < 2 ^ 31 → wsT wt (nI a) d s m = wsm wt s m + (if a < m ∧ s.testBit a = true then d else 0) := by
  intro m
  induction m with
  | zero =>
    intro _
    rw [wsT, wsm, if_neg (by omega)]
    rfl
  | succ m ih =>
    intro hm
    rw [wsT, wsm, ih (by omega)]
    cases h1 : s.testBit m
    · simp only [Bool.false_eq_true, if_false]
      by_cases e : a = m
      · subst e
        rw [if_neg (by omega), if_neg (fun z => by rw [h1] at z; cases z.2)]
      · by_cases c : a < m ∧ s.testBit a = true
        · rw [if_pos c, if_pos ⟨by omega, c.2⟩]
        · rw [if_neg c, if_neg (fun z => c ⟨by omega, z.2⟩)]
    · simp only [if_true]
      by_cases e : m = a
      · subst e
        rw [if_pos rfl, if_neg (fun z => by omega), if_pos ⟨by omega, h1⟩]
        grind
      · rw [if_neg (fun z => e ((nI_eq (by omega) ha).1 z))]
        by_cases c : a < m ∧ s.testBit a = true
        · rw [if_pos c, if_pos ⟨by omega, c.2⟩]
          grind
        · rw [if_neg c, if_neg (fun z => c ⟨by omega, z.2⟩)]
          grind
theorem c_with_a {n : Nat} {wt li su : Nat → Int32} {si : Int32} {l : List Nat} (hL : holdL n wt l li si su) (hl : l.length ≤ 400) {a : Nat} {d : Int32} (ha : a < n) (hn : n ≤ 12) (h4 : ∀ s, s ∈ l → s < 4096) (hb : bigS (fun s => wsT wt (nI a) d s n) l) {post : Int32 → Prop} (hp : post (mxS (fun s => wsT wt (nI a) d s n) l)) : ∀ q i : Nat, i + q = l.length → wp_SetList_greatestSumWith_L6 li (nI l.length) su (nI a) d post (q + 1) (mxS (fun s => wsT wt (nI a) d s n) (l.take i)) (nI i) := by
  intro q
  induction q with
  | zero =>
    intro i hi
    rw [wp_SetList_greatestSumWith_L6]
    refine pk_le l.length i (fun _ => ?_) (fun h => absurd h (by omega))
    rw [List.take_of_length_le (by omega)]
    exact hp
  | succ q ih =>
    intro i hi
    rw [wp_SetList_greatestSumWith_L6]
    obtain ⟨x, hx, hm⟩ := get_some (l := l) (i := i) (by omega)
    obtain ⟨e1, e2⟩ := hL.2 i x hx
    have ih' := ih (i + 1) (by omega)
    rw [take_succ' hx, mxS_add (ws := fun s => wsT wt (nI a) d s n) (s := x) (hb x hm)] at ih'
    have hin : vp_in (nI i) 400 := vp_in_nI (by omega) (by decide)
    have hx4 := h4 x hm
    refine pk_le l.length i (fun h => absurd h (by omega)) (fun _ => ⟨hin, ?_⟩)
    rw [nI_clamp (by omega), nI_1, e1, e2]
    have hw := wsT_eq (wt := wt) (a := a) (d := d) (s := x) (by omega) n (by omega)
    refine w_has (by omega) (by omega) (fun ht => ⟨fun _ => ⟨hin, ?_⟩, fun z => absurd rfl z⟩) (fun ht => ⟨fun z => absurd z (by decide), fun _ => ⟨hin, ?_⟩⟩)
    · rw [if_neg (fun z => by rw [ht] at z; cases z.2), Int32.add_zero] at hw
      simp only [hw] at ih'
      exact ih'
    · rw [if_pos ⟨ha, ht⟩] at hw
      simp only [hw] at ih'
      exact ih'
theorem u_with {n : Nat} {wt li su : Nat → Int32} {si : Int32} {l : List Nat} (hL : holdL n wt l li si su) (hl : l.length ≤ 400) {a : Nat} {d : Int32} (ha : a < n) (hn : n ≤ 12) (h4 : ∀ s, s ∈ l → s < 4096) (hb : bigS (fun s => wsT wt (nI a) d s n) l) {post : Int32 → Prop} (hp : post (mxS (fun s => wsT wt (nI a) d s n) l)) : wp_SetList_greatestSumWith li si su (nI a) d post := by
  unfold wp_SetList_greatestSumWith
  rw [hL.1]
  exact ⟨l.length + 1, c_with_a hL hl ha hn h4 hb hp l.length 0 (by omega)⟩
end
