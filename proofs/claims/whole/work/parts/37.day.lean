/-! ===== a day ===== -/
def earn (S : SS) (l : Nat) : Int := sumN (fun r => gts S l r * S.lf l 5) 12
/-- the first n leases have paid -/
def pdN (S : SS) (n : Nat) : SS := (S.1, S.2.1, S.2.2.1, fun l k => if l < n ∧ k = 8 then S.lf l 8 + earn S l else S.lf l k, S.2.2.2.2.1, fun o => S.gt o + sumN (fun l => if S.bf (S.lf l 0).toNat 5 = o then earn S l else 0) n, fun t => S.pd t + sumN (fun l => if S.lf l 1 = t then earn S l else 0) n, S.2.2.2.2.2.2.2)
def wv (S : SS) (l : Nat) : Int := if 2 * shH S l > S.lf l 3 - S.lf l 2 + 1 then S.lf l 7 + 1 else 0
/-- the first n are warned, or evicted -/
def evN (S : SS) (n : Nat) : SS := (S.1, S.2.1, S.2.2.1, fun l k => if l < n ∧ S.lf l 6 ≠ 0 then (if k = 7 then wv S l else if k = 6 ∧ 2 ≤ wv S l then 0 else S.lf l k) else S.lf l k, S.2.2.2.2.1, S.2.2.2.2.2.1, S.2.2.2.2.2.2.1, S.dy, S.ev + sumN (fun l => if S.lf l 6 ≠ 0 ∧ 2 ≤ wv S l then 1 else 0) n)
def SS.uD (S : SS) (d : Int) : SS := (S.1, S.2.1, S.2.2.1, S.2.2.2.1, S.2.2.2.2.1, S.2.2.2.2.2.1, S.2.2.2.2.2.2.1, d, S.ev)
def SS.uE (S : SS) (e : Int) : SS := (S.1, S.2.1, S.2.2.1, S.2.2.2.1, S.2.2.2.2.1, S.2.2.2.2.2.1, S.2.2.2.2.2.2.1, S.dy, e)
def SS.uG (S : SS) (o : Nat) (v : Int) : SS := (S.1, S.2.1, S.2.2.1, S.2.2.2.1, S.2.2.2.2.1, fun o' => if o' = o then v else S.gt o', S.2.2.2.2.2.2)
def SS.uP (S : SS) (t : Nat) (v : Int) : SS := (S.1, S.2.1, S.2.2.1, S.2.2.2.1, S.2.2.2.2.1, S.2.2.2.2.2.1, fun t' => if t' = t then v else S.pd t', S.2.2.2.2.2.2.2)
def dayS (S : SS) : SS := (evN (pdN S S.nl) S.nl).uD (S.dy + 1)
def passS (S : SS) : Nat → SS
  | 0 => S
  | n + 1 => dayS (passS S n)
/-- who stands has one warning at most -/
def WW (S : SS) : Prop := ∀ l, l < S.nl → S.lf l 6 ≠ 0 → S.lf l 7 ≤ 1
/-! what they leave alone -/
theorem hasH_cg {S T : SS} {l r : Nat} (h : ∀ k, k < 7 → S.lf l k = T.lf l k) : hasH S l r = hasH T l r := by
  unfold hasH
  rw [h 6 (by omega), h 2 (by omega), h 3 (by omega)]
theorem wnt_cg {S T : SS} (h1 : S.nl = T.nl) (h : ∀ l k, k < 7 → S.lf l k = T.lf l k) (b : Int) (r : Nat) (p q : Int) : wnt S b r p q = wnt T b r p q := by
  unfold wnt
  rw [h1]
  refine sumN_congr _ (fun i hi => ?_)
  rw [hasH_cg (h i), h i 0 (by omega), h i 5 (by omega), h i 4 (by omega)]
theorem area_cg {S T : SS} (h1 : SS.nb S = SS.nb T) (h2 : SS.bf S = SS.bf T) (h3 : SS.sn S = SS.sn T) : area S = area T := by
  funext b r
  unfold area
  rw [bel_cg h1 h2 h3]
theorem free_cg {S T : SS} (h0 : SS.nb S = SS.nb T) (h2 : SS.bf S = SS.bf T) (h3 : SS.sn S = SS.sn T) (h1 : S.nl = T.nl) (h : ∀ l k, k < 7 → S.lf l k = T.lf l k) (b : Int) (r : Nat) (p q : Int) : free S b r p q = free T b r p q := by
  unfold free
  rw [area_cg h0 h2 h3, wnt_cg h1 h]
theorem gts_cg {S T : SS} (h0 : SS.nb S = SS.nb T) (h2 : SS.bf S = SS.bf T) (h3 : SS.sn S = SS.sn T) (h1 : S.nl = T.nl) (h : ∀ l k, k < 7 → S.lf l k = T.lf l k) (l r : Nat) : gts S l r = gts T l r := by
  unfold gts
  rw [hasH_cg (h l), free_cg h0 h2 h3 h1 h, h l 4 (by omega), h l 0 (by omega), h l 5 (by omega)]
theorem shH_cg {S T : SS} (h0 : SS.nb S = SS.nb T) (h2 : SS.bf S = SS.bf T) (h3 : SS.sn S = SS.sn T) (h1 : S.nl = T.nl) (h : ∀ l k, k < 7 → S.lf l k = T.lf l k) (l : Nat) : shH S l = shH T l := by
  unfold shH
  refine sumN_congr _ (fun i hi => ?_)
  unfold isSh
  rw [hasH_cg (h l), gts_cg h0 h2 h3 h1 h, h l 4 (by omega)]
theorem lf_pdN {S : SS} {n l k : Nat} : (pdN S n).lf l k = if l < n ∧ k = 8 then S.lf l 8 + earn S l else S.lf l k := rfl
theorem gts_pdN {S : SS} {n : Nat} (l r : Nat) : gts (pdN S n) l r = gts S l r := gts_cg (S := pdN S n) (T := S) rfl rfl rfl rfl (fun l k hk => by rw [lf_pdN, if_neg (by omega)]) l r
theorem shH_pdN {S : SS} {n : Nat} (l : Nat) : shH (pdN S n) l = shH S l := shH_cg (S := pdN S n) (T := S) rfl rfl rfl rfl (fun l k hk => by rw [lf_pdN, if_neg (by omega)]) l
theorem gts_0 {S : SS} {l r : Nat} (h : S.lf l 6 = 0) : gts S l r = 0 := by
  have : hasH S l r = false := by
    unfold hasH
    rw [decide_eq_false_iff_not, h]
    omega
  unfold gts
  rw [if_neg (by rw [this]; decide)]
theorem sumN_0 {f : Nat → Int} : ∀ n, (∀ i, i < n → f i = 0) → sumN f n = 0
  | 0, _ => rfl
  | n + 1, h => by rw [sumN, sumN_0 n (fun i hi => h i (by omega)), h n (by omega)]; rfl
theorem earn_0 {S : SS} {l : Nat} (h : S.lf l 6 = 0) : earn S l = 0 := sumN_0 _ (fun i _ => by rw [gts_0 h, Int.zero_mul])
theorem earn_b {S : SS} {l : Nat} (hW : WF S) (hl : l < S.nl) : 0 ≤ earn S l ∧ earn S l ≤ 71280 := by
  have h1 := hW.2.2.2.1 l hl
  have hm : ∀ r, 0 ≤ gts S l r * S.lf l 5 ∧ gts S l r * S.lf l 5 ≤ 5940 := fun r => by
    have h2 := gts_b (r := r) hW hl
    exact ⟨Int.mul_nonneg (by omega) (by omega), Int.le_trans (Int.mul_le_mul h2.2 h1.2.2.2.2.2.2.2.2.2.2.1 (by omega) (by omega)) (by omega)⟩
  have h3 := sumN_le (f := fun r => gts S l r * S.lf l 5) (m := 5940) 12 (fun i _ => (hm i).2)
  have h4 := sumN_ge (f := fun r => gts S l r * S.lf l 5) (m := 0) 12 (fun i _ => (hm i).1)
  unfold earn
  omega
theorem pdN_0 {S : SS} : pdN S 0 = S := by
  refine SS_ext rfl rfl (fun _ _ => rfl) (fun b k => ?_) (fun _ _ => rfl) (fun o => ?_) (fun o => ?_) rfl rfl
  · rw [lf_pdN, if_neg (by omega)]
  · show S.gt o + 0 = S.gt o
    omega
  · show S.pd o + 0 = S.pd o
    omega
theorem pdN_k {S : SS} {n : Nat} (h : S.lf n 6 = 0) : pdN S n = pdN S (n + 1) := by
  have e := earn_0 h
  refine SS_ext rfl rfl (fun _ _ => rfl) (fun b k => ?_) (fun _ _ => rfl) (fun o => ?_) (fun o => ?_) rfl rfl
  · rw [lf_pdN, lf_pdN]
    by_cases q : b = n
    · subst q
      rw [if_neg (by omega)]
      split
      · next z => rw [z.2, e]; omega
      · rfl
    · by_cases q2 : b < n ∧ k = 8
      · rw [if_pos q2, if_pos ⟨by omega, q2.2⟩]
      · rw [if_neg q2, if_neg (by omega)]
  · show S.gt o + sumN _ n = S.gt o + (sumN _ n + (if S.bf (S.lf n 0).toNat 5 = (o : Int) then earn S n else 0))
    rw [e]
    simp
  · show S.pd o + sumN _ n = S.pd o + (sumN _ n + (if S.lf n 1 = (o : Int) then earn S n else 0))
    rw [e]
    simp
theorem pdN_s {S : SS} {n o t : Nat} {v g p : Int} (ho : S.bf (S.lf n 0).toNat 5 = o) (ht : S.lf n 1 = t) (hv : v = S.lf n 8 + earn S n) (hg : g = (pdN S n).gt o + earn S n) (hp : p = (pdN S n).pd t + earn S n) : (((pdN S n).uL n 8 v).uG o g).uP t p = pdN S (n + 1) := by
  refine SS_ext rfl rfl (fun _ _ => rfl) (fun b k => ?_) (fun _ _ => rfl) (fun o' => ?_) (fun o' => ?_) rfl rfl
  · show (if b = n ∧ k = 8 then v else (pdN S n).lf b k) = _
    rw [lf_pdN, lf_pdN]
    by_cases q : b = n ∧ k = 8
    · rw [if_pos q, if_pos ⟨by omega, q.2⟩, hv, q.1]
    · rw [if_neg q]
      by_cases q2 : b < n ∧ k = 8
      · rw [if_pos q2, if_pos ⟨by omega, q2.2⟩]
      · rw [if_neg q2, if_neg (by omega)]
  · show (if o' = o then g else S.gt o' + sumN _ n) = S.gt o' + (sumN _ n + (if S.bf (S.lf n 0).toNat 5 = (o' : Int) then earn S n else 0))
    rw [ho]
    by_cases q : o' = o
    · subst q
      rw [if_pos rfl, if_pos rfl, hg]
      show S.gt o' + sumN _ n + _ = _
      omega
    · rw [if_neg q, if_neg (by omega)]
      omega
  · show (if o' = t then p else S.pd o' + sumN _ n) = S.pd o' + (sumN _ n + (if S.lf n 1 = (o' : Int) then earn S n else 0))
    rw [ht]
    by_cases q : o' = t
    · subst q
      rw [if_pos rfl, if_pos rfl, hp]
      show S.pd o' + sumN _ n + _ = _
      omega
    · rw [if_neg q, if_neg (by omega)]
      omega
theorem lf_evN {S : SS} {n l k : Nat} : (evN S n).lf l k = if l < n ∧ S.lf l 6 ≠ 0 then (if k = 7 then wv S l else if k = 6 ∧ 2 ≤ wv S l then 0 else S.lf l k) else S.lf l k := rfl
theorem evN_0 {S : SS} : evN S 0 = S := by
  refine SS_ext rfl rfl (fun _ _ => rfl) (fun b k => ?_) (fun _ _ => rfl) (fun o => rfl) (fun o => rfl) rfl ?_
  · rw [lf_evN, if_neg (by omega)]
  · show S.ev + 0 = S.ev
    omega
theorem evN_k {S : SS} {n : Nat} (h : S.lf n 6 = 0) : evN S n = evN S (n + 1) := by
  refine SS_ext rfl rfl (fun _ _ => rfl) (fun b k => ?_) (fun _ _ => rfl) (fun o => rfl) (fun o => rfl) rfl ?_
  · rw [lf_evN, lf_evN]
    by_cases q : b < n ∧ S.lf b 6 ≠ 0
    · rw [if_pos q, if_pos (⟨by omega, q.2⟩ : b < n + 1 ∧ S.lf b 6 ≠ 0)]
    · rw [if_neg q, if_neg (fun z : b < n + 1 ∧ S.lf b 6 ≠ 0 => q ⟨by rcases Nat.lt_or_ge b n with u | u; exact u; exact absurd (by rw [show b = n by omega]; exact h) z.2, z.2⟩)]
  · show S.ev + sumN _ n = S.ev + (sumN _ n + (if S.lf n 6 ≠ 0 ∧ 2 ≤ wv S n then 1 else 0))
    rw [if_neg (fun z => z.1 h)]
    omega
theorem evN_w {S : SS} {n : Nat} (h : S.lf n 6 ≠ 0) (h2 : wv S n < 2) : (evN S n).uL n 7 (wv S n) = evN S (n + 1) := by
  refine SS_ext rfl rfl (fun _ _ => rfl) (fun b k => ?_) (fun _ _ => rfl) (fun o => rfl) (fun o => rfl) rfl ?_
  · rw [lf_uL, lf_evN, lf_evN]
    by_cases q : b = n
    · subst q
      rw [if_pos (⟨by omega, h⟩ : b < b + 1 ∧ S.lf b 6 ≠ 0), if_neg (fun z : b < b ∧ _ => by omega)]
      by_cases u : k = 7
      · rw [if_pos ⟨rfl, u⟩, if_pos u]
      · rw [if_neg (fun z => u z.2), if_neg u, if_neg (by omega)]
    · rw [if_neg (fun z => q z.1)]
      by_cases u : b < n ∧ S.lf b 6 ≠ 0
      · rw [if_pos u, if_pos (⟨by omega, u.2⟩ : b < n + 1 ∧ S.lf b 6 ≠ 0)]
      · rw [if_neg u, if_neg (fun z : b < n + 1 ∧ S.lf b 6 ≠ 0 => u ⟨by omega, z.2⟩)]
  · show S.ev + sumN _ n = S.ev + (sumN _ n + (if S.lf n 6 ≠ 0 ∧ 2 ≤ wv S n then 1 else 0))
    rw [if_neg (by omega)]
    omega
theorem evN_e {S : SS} {n : Nat} (h : S.lf n 6 ≠ 0) (h2 : ¬ wv S n < 2) : (((evN S n).uL n 7 (wv S n)).uL n 6 0).uE ((evN S n).ev + 1) = evN S (n + 1) := by
  refine SS_ext rfl rfl (fun _ _ => rfl) (fun b k => ?_) (fun _ _ => rfl) (fun o => rfl) (fun o => rfl) rfl ?_
  · show (((evN S n).uL n 7 (wv S n)).uL n 6 0).lf b k = _
    rw [lf_uL, lf_uL, lf_evN, lf_evN]
    by_cases q : b = n
    · subst q
      rw [if_pos (⟨by omega, h⟩ : b < b + 1 ∧ S.lf b 6 ≠ 0), if_neg (fun z : b < b ∧ _ => by omega)]
      by_cases u : k = 7
      · rw [if_neg (by omega), if_pos ⟨rfl, u⟩, if_pos u]
      · rw [if_neg (fun z : b = b ∧ k = 7 => u z.2), if_neg u]
        by_cases u2 : k = 6
        · rw [if_pos ⟨rfl, u2⟩, if_pos ⟨u2, by omega⟩]
        · rw [if_neg (fun z => u2 z.2), if_neg (fun z => u2 z.1)]
    · rw [if_neg (fun z => q z.1), if_neg (fun z => q z.1)]
      by_cases u : b < n ∧ S.lf b 6 ≠ 0
      · rw [if_pos u, if_pos (⟨by omega, u.2⟩ : b < n + 1 ∧ S.lf b 6 ≠ 0)]
      · rw [if_neg u, if_neg (fun z : b < n + 1 ∧ S.lf b 6 ≠ 0 => u ⟨by omega, z.2⟩)]
  · show S.ev + sumN _ n + 1 = S.ev + (sumN _ n + (if S.lf n 6 ≠ 0 ∧ 2 ≤ wv S n then 1 else 0))
    rw [if_pos ⟨h, by omega⟩]
    omega
/-! they keep the order -/
theorem WF_l {S T : SS} (hW : WF S) (h1 : T.nb = S.nb) (h2 : T.nl = S.nl) (h3 : SS.bf T = SS.bf S) (h5 : SS.sn T = SS.sn S) (h8 : 0 ≤ T.dy ∧ T.dy ≤ 1000) (hL : WL T) : WF T := by
  obtain ⟨a1, a2, a3, a4, a5, a6, a7, a8⟩ := hW
  refine ⟨by omega, by omega, ?_, hL, ?_, h8.1, h8.2, ?_⟩
  · unfold WB; rw [h1, h3]; exact a3
  · unfold WN; rw [h5]; exact a5
  · rw [cov_cg h3, h1]; exact a8
theorem WF_pdN {S : SS} {n : Nat} (hW : WF S) : WF (pdN S n) := by
  refine WF_l hW rfl rfl rfl rfl ⟨hW.2.2.2.2.2.1, hW.2.2.2.2.2.2.1⟩ (fun l hl => ?_)
  have h := hW.2.2.2.1 l hl
  have e2 : (pdN S n).nb = S.nb := rfl
  simp only [lf_pdN, e2, Nat.reduceEqDiff, and_false, if_false]
  exact h
theorem WW_pdN {S : SS} {n : Nat} (hW : WW S) : WW (pdN S n) := by
  intro l hl
  simp only [lf_pdN, Nat.reduceEqDiff, and_false, if_false]
  exact hW l hl
theorem wv_b {S : SS} {l : Nat} (hW : WF S) (hw : WW S) (hl : l < S.nl) (h : S.lf l 6 ≠ 0) : 0 ≤ wv S l ∧ wv S l ≤ 2 := by
  have h1 := hW.2.2.2.1 l hl
  have h2 := hw l hl h
  unfold wv
  split <;> omega
theorem WF_evN {S : SS} {n : Nat} (hW : WF S) (hw : WW S) : WF (evN S n) := by
  refine WF_l hW rfl rfl rfl rfl ⟨hW.2.2.2.2.2.1, hW.2.2.2.2.2.2.1⟩ (fun l hl => ?_)
  have h := hW.2.2.2.1 l hl
  have e2 : (evN S n).nb = S.nb := rfl
  simp only [lf_evN, e2, Nat.reduceEqDiff, if_false, if_true, false_and, true_and]
  by_cases u : l < n ∧ S.lf l 6 ≠ 0
  · have h2 := wv_b hW hw hl u.2
    simp only [u, ne_eq, not_false_eq_true, and_self, if_true]
    by_cases z : 2 ≤ wv S l
    · simp only [z, if_true, true_or, and_true, true_and]; omega
    · simp only [z, if_false]; omega
  · simp only [u, if_false]; exact h
theorem WW_evN {S : SS} (hW : WF S) : WW (evN S S.nl) := by
  intro l hl h
  have hl' : l < S.nl := hl
  simp only [lf_evN, hl', true_and, Nat.reduceEqDiff, if_false, if_true] at h ⊢
  by_cases u : S.lf l 6 ≠ 0
  · simp only [u, ne_eq, not_false_eq_true, if_true] at h ⊢
    by_cases z : 2 ≤ wv S l
    · simp only [z, if_true, not_true_eq_false] at h
    · omega
  · simp only [u, if_false] at h
theorem WF_dayS {S : SS} (hW : WF S) (hw : WW S) (hd : S.dy < 1000) : WF (dayS S) ∧ WW (dayS S) := by
  have h1 := WF_evN (n := S.nl) (WF_pdN (n := S.nl) hW) (WW_pdN hw)
  have h2 := hW.2.2.2.2.2.1
  exact ⟨WF_l h1 rfl rfl rfl rfl ⟨show 0 ≤ S.dy + 1 by omega, show S.dy + 1 ≤ 1000 by omega⟩ h1.2.2.2.1, WW_evN (WF_pdN (n := S.nl) hW)⟩
