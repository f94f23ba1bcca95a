/-! the landed class: the list of the sets that may be -/
/-- the class's animals and rules are the reference's -/
def HR (n M : Nat) (cb cf : Nat → Int32) (kg : Nat → Nat → Int32) (mo : Int32) (fm kn br : Nat → Int32) : Prop := n ≤ 12 ∧ M < 2 ^ n ∧ famM n fm cf ∧ 0 ≤ mo ∧ (∀ a b, a < 12 → b < 12 → kg a b = kn (12 * a + b)) ∧ (∀ a b, a < 12 → b < 12 → kn (12 * a + b) = kn (12 * b + a)) ∧ barM n br cb
def okS (M : Nat) (fm kn br ls : Nat → Int32) (lim mo : Int32) (n k s : Nat) : Bool := fitsS fm kn ls lim mo n k s && (pairM br n (bl (s &&& M) n) (dif s M)).isSome
def holdL (n : Nat) (wt : Nat → Int32) (l : List Nat) (li : Nat → Int32) (si : Int32) (su : Nat → Int32) : Prop := si = nI l.length ∧ ∀ (j a : Nat), l[j]? = some a → li j = nI a ∧ su j = wsm wt a n
theorem holdL_add {n s : Nat} {wt li su : Nat → Int32} {si : Int32} {l : List Nat} (h : holdL n wt l li si su) : holdL n wt (l ++ [s]) (upd li l.length (nI s)) (si + 1) (upd su l.length (wsm wt s n)) := by
  refine ⟨?_, fun j a hj => ?_⟩
  · rw [h.1, nI_1, List.length_append]
    rfl
  · by_cases hl : j = l.length
    · subst hl
      rw [List.getElem?_append_right (Nat.le_refl _), Nat.sub_self] at hj
      cases hj
      exact ⟨pk_us, pk_us⟩
    · have hlt : j < l.length := by
        have := (List.getElem?_eq_some_iff.mp hj).1
        rw [List.length_append] at this
        simp at this
        omega
      rw [List.getElem?_append_left hlt] at hj
      rw [pk_un hl, pk_un hl]
      exact h.2 j a hj
section
theorem u_listIf {n M : Nat} {cb cf : Nat → Int32} {kg : Nat → Nat → Int32} {mo lim : Int32} {fm kn br ls wt : Nat → Int32} (H : HR n M cb cf kg mo fm kn br) {k s : Nat} (hs : s < 2 ^ n) (hk : pcn n (s &&& M) ≤ 6) {l : List Nat} {li su tf tm : Nat → Int32} {si : Int32} (hL : holdL n wt l li si su) (hle : (if okS M fm kn br ls lim mo n k s = true then l ++ [s] else l).length ≤ 400) {post : (Nat → Int32) → Int32 → (Nat → Int32) → (Nat → Int32) → (Nat → Int32) → Prop}
    (hp : ∀ li si su tf tm, holdL n wt (if okS M fm kn br ls lim mo n k s = true then l ++ [s] else l) li si su → post li si su tf tm) : wp_SetList_listIfItMayBe cb (nI n) cf lim kg ls (nI M) mo wt li (nI k) si su tf tm (nI s) post := by
  obtain ⟨hn, hMn, hcf, hmo, hkg, hsym, hcb⟩ := H
  unfold wp_SetList_listIfItMayBe
  have hs31 : s < 2 ^ 31 := by have := s4096 hs hn; omega
  have hsi := hL.1
  subst hsi
  have hll : l.length ≤ 400 := by
    split at hle
    · rw [List.length_append] at hle; simp at hle; omega
    · exact hle
  refine pk_le 400 l.length (fun h => ?_) (fun h => u_keepsRules hn hs hcf hmo hkg hsym ?_)
  · have hno : ¬ okS M fm kn br ls lim mo n k s = true := fun q => by
      rw [if_pos q, List.length_append] at hle
      simp at hle
      omega
    rw [if_neg hno] at hp
    exact hp li _ su tf tm hL
  · cases hf : fitsS fm kn ls lim mo n k s
    · refine ⟨fun _ => ?_, fun z => absurd rfl z⟩
      rw [if_neg (by simp [okS, hf])] at hp
      exact hp li _ su tf tm hL
    · refine ⟨fun z => absurd z (by decide), fun _ => u_pairSet hn hcb hs hk (fun hq => ⟨fun _ => ?_, fun z => absurd rfl z⟩) (fun pl fl' ml' hq _ _ => ⟨fun z => absurd z (by decide), fun _ => ⟨vp_in_nI h (by decide), u_worthSum hn hs31 ⟨vp_in_nI h (by decide), ?_⟩⟩⟩)⟩
      · rw [if_neg (by simp [okS, hq])] at hp
        exact hp li _ su _ _ hL
      · rw [if_pos (by simp [okS, hf, hq])] at hp
        rw [nI_clamp (by omega)]
        exact hp _ _ _ _ _ (holdL_add hL)
/-- the sets of these males, with the females of the mask downwards from p -/
def lwM (M : Nat) (fm kn br ls : Nat → Int32) (lim mo : Int32) (n k pm fe q p : Nat) : List Nat := (((dsb fe q p).filter (fun x => decide (pcn 12 x = k))).map (fun x => pm ||| x)).filter (fun s => okS M fm kn br ls lim mo n k s)
theorem u_listWith_a {n M : Nat} {cb cf : Nat → Int32} {kg : Nat → Nat → Int32} {mo lim : Int32} {fm kn br ls wt : Nat → Int32} (H : HR n M cb cf kg mo fm kn br) {k pm : Nat} (hk : k ≤ 6) (hpm : pm < 2 ^ n) (hpM : pm &&& M = pm) (hpk : pcn n pm = k) {post : (Nat → Int32) → Int32 → (Nat → Int32) → (Nat → Int32) → (Nat → Int32) → Prop} :
    ∀ (q p : Nat) (l : List Nat) (li su tf tm : Nat → Int32) (si : Int32), p < q → p < 2 ^ n → p &&& dif (2 ^ n - 1) M = p → holdL n wt l li si su → (l ++ lwM M fm kn br ls lim mo n k pm (dif (2 ^ n - 1) M) q p).length ≤ 400 →
    (∀ li si su tf tm, holdL n wt (l ++ lwM M fm kn br ls lim mo n k pm (dif (2 ^ n - 1) M) q p) li si su → post li si su tf tm) → wp_SetList_listWithMales_L20 cb (nI n) cf lim kg ls (nI M) mo wt (nI k) (nI pm) (nI (2 ^ n - 1)) post q (nI p) li si su tf tm := by
  have hn := H.1
  have h12 : 2 ^ n ≤ 2 ^ 12 := Nat.pow_le_pow_right (by decide) hn
  intro q
  induction q with
  | zero => intro p l li su tf tm si h; omega
  | succ q ih =>
    intro p l li su tf tm si hq hp hpf hL hle hpost
    rw [wp_SetList_listWithMales_L20]
    unfold lwM at hle hpost
    rw [dsb] at hle hpost
    by_cases h0 : p = 0
    · subst h0
      rw [if_pos rfl] at hle hpost
      refine ⟨fun _ => ?_, fun z => absurd (by rw [nI_0]; decide) z⟩
      simp only [List.filter_nil, List.map_nil, List.append_nil] at hpost
      exact hpost li si su tf tm hL
    · rw [if_neg h0] at hle hpost
      have hle1 := and_le' (p - 1) (dif (2 ^ n - 1) M)
      have hnext : (nI p - 1) &&& (nI (2 ^ n - 1) &&& (nI M ^^^ (-1))) = nI ((p - 1) &&& dif (2 ^ n - 1) M) := by
        rw [mk_andn, show (1 : Int32) = nI 1 from rfl, pk_sub (by omega), mk_and]
      rw [hnext]
      refine ⟨fun z => absurd z (nI_nle (by omega) (by omega)), fun _ => w_bc (by omega) ?_⟩
      have hih := fun l li su tf tm si => ih ((p - 1) &&& dif (2 ^ n - 1) M) l li su tf tm si (by omega) (by omega) (sub_and _ _)
      unfold lwM at hih
      have hpc := pcn_le 12 p
      refine ⟨fun z => ?_, fun z => ?_⟩
      · rw [nI_eq (by omega) (by omega)] at z
        rw [List.filter_cons, if_neg (by simpa using z)] at hle hpost
        exact hih l li su tf tm si hL hle hpost
      · rw [nI_eq (by omega) (by omega)] at z
        rw [List.filter_cons, if_pos (by simpa using z), List.map_cons, List.filter_cons] at hle hpost
        rw [mk_or]
        have hsm : (pm ||| p) &&& M = pm := by
          apply Nat.eq_of_testBit_eq
          intro i
          have e1 := congrArg (fun z => z.testBit i) hpM
          have e2 := congrArg (fun z => z.testBit i) hpf
          simp only [Nat.testBit_and, dif_bit] at e1 e2
          rw [Nat.testBit_and, Nat.testBit_or]
          cases a1 : pm.testBit i <;> cases a2 : p.testBit i <;> cases a3 : M.testBit i <;> rw [a1, a3] at e1 <;> rw [a2, a3] at e2 <;> simp at e1 e2 ⊢
        refine u_listIf H (Nat.or_lt_two_pow hpm hp) (by rw [hsm]; omega) hL ?_ (fun li si su tf tm h => ?_)
        · split
          · rename_i hok
            rw [if_pos hok] at hle
            rw [List.length_append] at hle ⊢
            simp at hle ⊢
            omega
          · rename_i hok
            rw [if_neg hok] at hle
            rw [List.length_append] at hle
            omega
        · split at h
          · rename_i hok
            rw [if_pos hok, ← List.singleton_append, ← List.append_assoc] at hle hpost
            exact hih _ li su tf tm si h hle hpost
          · rename_i hok
            rw [if_neg hok] at hle hpost
            exact hih _ li su tf tm si h hle hpost
theorem u_listWith {n M : Nat} {cb cf : Nat → Int32} {kg : Nat → Nat → Int32} {mo lim : Int32} {fm kn br ls wt : Nat → Int32} (H : HR n M cb cf kg mo fm kn br) {k pm : Nat} (hk : k ≤ 6) (hpm : pm < 2 ^ n) (hpM : pm &&& M = pm) (hpk : pcn n pm = k) {l : List Nat} {li su tf tm : Nat → Int32} {si : Int32} (hL : holdL n wt l li si su) (hle : (l ++ lwM M fm kn br ls lim mo n k pm (dif (2 ^ n - 1) M) 4096 (dif (2 ^ n - 1) M)).length ≤ 400) {post : (Nat → Int32) → Int32 → (Nat → Int32) → (Nat → Int32) → (Nat → Int32) → Prop}
    (hp : ∀ li si su tf tm, holdL n wt (l ++ lwM M fm kn br ls lim mo n k pm (dif (2 ^ n - 1) M) 4096 (dif (2 ^ n - 1) M)) li si su → post li si su tf tm) : wp_SetList_listWithMales cb (nI n) cf lim kg ls (nI M) mo wt li (nI k) si su tf tm (nI pm) post := by
  unfold wp_SetList_listWithMales
  have hn := H.1
  have h12 : 2 ^ n ≤ 2 ^ 12 := Nat.pow_le_pow_right (by decide) hn
  have hfe : dif (2 ^ n - 1) M < 2 ^ n := tb_small (fun i hi => by rw [dif_bit, Nat.testBit_two_pow_sub_one, decide_eq_false (by omega)]; rfl)
  refine w_hall hn ⟨4096, ?_⟩
  rw [mk_andn]
  exact u_listWith_a H hk hpm hpM hpk 4096 _ l li su tf tm si (by omega) hfe (Nat.and_self _) hL hle hp
/-- all of them, with the males of the mask downwards from p -/
def laM (M : Nat) (fm kn br ls : Nat → Int32) (lim mo : Int32) (n k q p : Nat) : List Nat := ((dsb M q p).filter (fun x => decide (pcn 12 x = k))).flatMap (fun pm => lwM M fm kn br ls lim mo n k pm (dif (2 ^ n - 1) M) 4096 (dif (2 ^ n - 1) M))
theorem u_listAll_a {n M : Nat} {cb cf : Nat → Int32} {kg : Nat → Nat → Int32} {mo lim : Int32} {fm kn br ls wt : Nat → Int32} (H : HR n M cb cf kg mo fm kn br) {k : Nat} (hk : k ≤ 6) {post : (Nat → Int32) → Int32 → Int32 → (Nat → Int32) → (Nat → Int32) → (Nat → Int32) → Prop} :
    ∀ (q p : Nat) (l : List Nat) (li su tf tm : Nat → Int32) (si : Int32), p < q → p < 2 ^ n → p &&& M = p → holdL n wt l li si su → (l ++ laM M fm kn br ls lim mo n k q p).length ≤ 400 →
    (∀ li si su tf tm, holdL n wt (l ++ laM M fm kn br ls lim mo n k q p) li si su → post li (nI k) si su tf tm) → wp_SetList_listAll_L27 cb (nI n) cf lim kg ls (nI M) mo wt (nI k) post q (nI p) li si su tf tm := by
  have hn := H.1
  have h12 : 2 ^ n ≤ 2 ^ 12 := Nat.pow_le_pow_right (by decide) hn
  intro q
  induction q with
  | zero => intro p l li su tf tm si h; omega
  | succ q ih =>
    intro p l li su tf tm si hq hp hpf hL hle hpost
    rw [wp_SetList_listAll_L27]
    unfold laM at hle hpost
    rw [dsb] at hle hpost
    by_cases h0 : p = 0
    · subst h0
      rw [if_pos rfl] at hle hpost
      refine ⟨fun _ => ?_, fun z => absurd (by rw [nI_0]; decide) z⟩
      simp only [List.filter_nil, List.flatMap_nil, List.append_nil] at hpost
      exact hpost li si su tf tm hL
    · rw [if_neg h0] at hle hpost
      have hle1 := and_le' (p - 1) M
      have hnext : (nI p - 1) &&& nI M = nI ((p - 1) &&& M) := by
        rw [show (1 : Int32) = nI 1 from rfl, pk_sub (by omega), mk_and]
      rw [hnext]
      refine ⟨fun z => absurd z (nI_nle (by omega) (by omega)), fun _ => w_bc (by omega) ?_⟩
      have hih := fun l li su tf tm si => ih ((p - 1) &&& M) l li su tf tm si (by omega) (by omega) (sub_and _ _)
      unfold laM at hih
      have hpc := pcn_le 12 p
      refine ⟨fun z => ?_, fun z => ?_⟩
      · rw [nI_eq (by omega) (by omega)] at z
        rw [List.filter_cons, if_neg (by simpa using z)] at hle hpost
        exact hih l li su tf tm si hL hle hpost
      · rw [nI_eq (by omega) (by omega)] at z
        rw [List.filter_cons, if_pos (by simpa using z), List.flatMap_cons, ← List.append_assoc] at hle hpost
        refine u_listWith H hk hp hpf (by rw [← pcn_12 hp hn]; exact z) hL ?_ (fun li si su tf tm h => hih _ li su tf tm si h hle hpost)
        rw [List.length_append] at hle
        omega
end
