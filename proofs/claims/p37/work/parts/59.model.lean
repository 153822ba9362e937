theorem dX12_farBy_0 : decode cX12_farBy 0 = .ok (.aload_n 0, 1) := by decide +kernel
theorem dX12_farBy_1 : decode cX12_farBy 1 = .ok (.iload_n 2, 1) := by decide +kernel
theorem dX12_farBy_2 : decode cX12_farBy 2 = .ok (.iload_n 3, 1) := by decide +kernel
theorem dX12_farBy_3 : decode cX12_farBy 3 = .ok (.invokevirtual 272, 3) := by decide +kernel
theorem dX12_farBy_6 : decode cX12_farBy 6 = .ok (.istore 4, 2) := by decide +kernel
theorem dX12_farBy_8 : decode cX12_farBy 8 = .ok (.iload 4, 2) := by decide +kernel
theorem dX12_farBy_10 : decode cX12_farBy 10 = .ok (.iconst (-1), 1) := by decide +kernel
theorem dX12_farBy_11 : decode cX12_farBy 11 = .ok (.if_icmp .eq 34, 3) := by decide +kernel
theorem dX12_farBy_45 : decode cX12_farBy 45 = .ok (.ldc_w 315, 3) := by decide +kernel
theorem dX12_farBy_48 : decode cX12_farBy 48 = .ok (.goto 22, 3) := by decide +kernel
theorem dX12_farBy_70 : decode cX12_farBy 70 = .ok (.ireturn, 1) := by decide +kernel
theorem dX12_farBy_14 : decode cX12_farBy 14 = .ok (.aload_n 0, 1) := by decide +kernel
theorem dX12_farBy_15 : decode cX12_farBy 15 = .ok (.iload 4, 2) := by decide +kernel
theorem dX12_farBy_17 : decode cX12_farBy 17 = .ok (.invokevirtual 276, 3) := by decide +kernel
theorem dX12_farBy_20 : decode cX12_farBy 20 = .ok (.aload_n 0, 1) := by decide +kernel
theorem dX12_farBy_21 : decode cX12_farBy 21 = .ok (.getfield 98, 3) := by decide +kernel
theorem dX12_farBy_24 : decode cX12_farBy 24 = .ok (.bipush 61, 2) := by decide +kernel
theorem dX12_farBy_26 : decode cX12_farBy 26 = .ok (.iload_n 1, 1) := by decide +kernel
theorem dX12_farBy_27 : decode cX12_farBy 27 = .ok (.iadd, 1) := by decide +kernel
theorem dX12_farBy_28 : decode cX12_farBy 28 = .ok (.iaload, 1) := by decide +kernel
theorem dX12_farBy_29 : decode cX12_farBy 29 = .ok (.if_icmp .gt 16, 3) := by decide +kernel
theorem dX12_farBy_32 : decode cX12_farBy 32 = .ok (.aload_n 0, 1) := by decide +kernel
theorem dX12_farBy_33 : decode cX12_farBy 33 = .ok (.getfield 133, 3) := by decide +kernel
theorem dX12_farBy_36 : decode cX12_farBy 36 = .ok (.iload 4, 2) := by decide +kernel
theorem dX12_farBy_38 : decode cX12_farBy 38 = .ok (.iaload, 1) := by decide +kernel
theorem dX12_farBy_39 : decode cX12_farBy 39 = .ok (.ldc_w 315, 3) := by decide +kernel
theorem dX12_farBy_42 : decode cX12_farBy 42 = .ok (.if_icmp .lt 9, 3) := by decide +kernel
theorem dX12_farBy_51 : decode cX12_farBy 51 = .ok (.aload_n 0, 1) := by decide +kernel
theorem dX12_farBy_52 : decode cX12_farBy 52 = .ok (.getfield 133, 3) := by decide +kernel
theorem dX12_farBy_55 : decode cX12_farBy 55 = .ok (.iload 4, 2) := by decide +kernel
theorem dX12_farBy_57 : decode cX12_farBy 57 = .ok (.iaload, 1) := by decide +kernel
theorem dX12_farBy_58 : decode cX12_farBy 58 = .ok (.bipush 64, 2) := by decide +kernel
theorem dX12_farBy_60 : decode cX12_farBy 60 = .ok (.aload_n 0, 1) := by decide +kernel
theorem dX12_farBy_61 : decode cX12_farBy 61 = .ok (.iload 4, 2) := by decide +kernel
theorem dX12_farBy_63 : decode cX12_farBy 63 = .ok (.invokevirtual 276, 3) := by decide +kernel
theorem dX12_farBy_66 : decode cX12_farBy 66 = .ok (.imul, 1) := by decide +kernel
theorem dX12_farBy_67 : decode cX12_farBy 67 = .ok (.iadd, 1) := by decide +kernel
theorem dX12_farBy_68 : decode cX12_farBy 68 = .ok (.iconst 1, 1) := by decide +kernel
theorem dX12_farBy_69 : decode cX12_farBy 69 = .ok (.iadd, 1) := by decide +kernel
set_option maxRecDepth 100000 in
theorem ggX12_farBy_X12_beside : GoodIn wsX12_farBy wsX12_beside := goodIn_r _ [8, 9, 10, 11, 7, 12, 1, 13, 14, 15, 24, 25, 26, 27, 28, 29, 30, 31, 32, 33, 34, 35, 36, 37, 38, 39, 40, 41, 42, 43, 44, 45, 46, 47, 48, 49, 50, 51, 52, 53, 54, 55, 56, 57, 58, 59, 60, 61, 62, 63, 64, 65, 66, 67, 68, 69, 70, 71, 72, 73, 74, 75] rfl (by decide +kernel)
set_option maxRecDepth 100000 in
theorem ggX12_farBy_X12_costOf : GoodIn wsX12_farBy wsX12_costOf := goodIn_r _ [19, 1, 20, 21, 22, 7, 23, 24, 25, 26, 27, 28, 29, 30, 31, 32, 33, 34, 35, 36, 37, 38, 39, 40, 41, 42, 43, 44, 45, 46, 47, 48, 49, 50, 51, 52, 53, 54, 55, 56, 57, 58, 59, 60, 61, 62, 63, 64, 65, 66, 67, 68, 69, 70, 71, 72, 73, 74, 75] rfl (by decide +kernel)
set_option maxRecDepth 100000 in
theorem gX12_farBy_X12_beside : GoodIn wsX12_farBy (wsV RX12 272 RX12 yX12_beside wsX12_beside) := goodIn_app (goodIn_of _ (by decide +kernel)) ggX12_farBy_X12_beside
set_option maxRecDepth 100000 in
theorem gX12_farBy_X12_costOf : GoodIn wsX12_farBy (wsV RX12 276 RX12 yX12_costOf wsX12_costOf) := goodIn_app (goodIn_of _ (by decide +kernel)) ggX12_farBy_X12_costOf
def lo_FB36 (j : Nat) : Int := if j < 36 then (0 : Int) else 0
def hi_FB36 (j : Nat) : Int := if j < 36 then (100000 : Int) else 0
def FB36 (f : Nat → Int32) : Prop := ABnd 36 lo_FB36 hi_FB36 f
theorem lo_FB36_0 (j : Nat) (h1 : 0 ≤ j) (h2 : j < 36) : lo_FB36 j = 0 := by
  unfold lo_FB36
  rw [if_pos (by omega)]
theorem hi_FB36_0 (j : Nat) (h1 : 0 ≤ j) (h2 : j < 36) : hi_FB36 j = 100000 := by
  unfold hi_FB36
  rw [if_pos (by omega)]
theorem ld_FB36_0 {f : Nat → Int32} (h : FB36 f) (j : Nat) (h1 : 0 ≤ j) (h2 : j < 36) : (0 : Int) ≤ (f j).toInt ∧ (f j).toInt ≤ 100000 := by
  have h3 := h j (by omega)
  rw [lo_FB36_0 _ h1 h2, hi_FB36_0 _ h1 h2] at h3
  exact h3
theorem st_FB36_0 {f : Nat → Int32} (h : FB36 f) (j : Nat) (h1 : 0 ≤ j) (h2 : j < 36) {v : Int32} (h3 : (0 : Int) ≤ v.toInt) (h4 : v.toInt ≤ 100000) : FB36 (upd f j v) := ABnd_upd h j v (by
  rw [lo_FB36_0 _ h1 h2, hi_FB36_0 _ h1 h2]
  exact ⟨h3, h4⟩)
/-- the cell at a side, or 36 -/
def bsN (w h : Int) (c s : Nat) : Nat := if s = 0 then (if ((c % 6 : Nat) : Int) + 1 < w ∧ ((c / 6 : Nat) : Int) < h then c + 1 else 36) else if s = 1 then (if ((c % 6 : Nat) : Int) < w ∧ ((c / 6 : Nat) : Int) + 1 < h then c + 6 else 36) else if s = 2 then (if 1 ≤ c % 6 ∧ ((c % 6 : Nat) : Int) - 1 < w ∧ ((c / 6 : Nat) : Int) < h then c - 1 else 36) else (if ((c % 6 : Nat) : Int) < w ∧ 1 ≤ c / 6 ∧ ((c / 6 : Nat) : Int) - 1 < h then c - 6 else 36)
def coL (n : Nat → Int32) (c : Nat) : Int := if (n 68).toInt ≤ (n 6).toInt then 1 else 1 + (n (71 + c)).toInt / 3
def fbD (n f : Nat → Int32) (b d : Nat) : Int := if d = 36 then 100000 else if (n (61 + b)).toInt < coL n d then 100000 else if 100000 ≤ (f d).toInt then 100000 else (f d).toInt + 64 * coL n d + 1
def fbL (n f : Nat → Int32) (b c s : Nat) : Int := fbD n f b (bsN (n 0).toInt (n 1).toInt c s)
def inS (n : Nat → Int32) (c : Nat) : Prop := ((c % 6 : Nat) : Int) < (n 0).toInt ∧ ((c / 6 : Nat) : Int) < (n 1).toInt
def FI (n f : Nat → Int32) (b g : Nat) : Prop := (∀ c, c < 36 → 0 ≤ (f c).toInt ∧ (f c).toInt ≤ 100000) ∧ (f g).toInt = 0 ∧ ∀ c, c < 36 → c ≠ g → (f c).toInt < 100000 → inS n c ∧ ∃ s, s < 4 ∧ fbL n f b c s ≤ (f c).toInt
def FX (n f : Nat → Int32) (b c s : Nat) : Prop := ∀ c', c' < 36 → inS n c' → ∀ s', s' < 4 → (c' < c ∨ (c' = c ∧ s' < s)) → (f c').toInt ≤ fbL n f b c' s'
def sumF (f : Nat → Int32) (k : Nat) : Nat := Nat.rec 0 (fun j r => r + (f j).toInt.toNat) k
def rankF (f : Nat → Int32) (v : Int) (k : Nat) : Nat := Nat.rec 0 (fun j r => r + (if (f j).toInt < v then 1 else 0)) k
theorem sumF_s (f : Nat → Int32) (k : Nat) : sumF f (k + 1) = sumF f k + (f k).toInt.toNat := rfl
theorem rankF_s (f : Nat → Int32) (v : Int) (k : Nat) : rankF f v (k + 1) = rankF f v k + (if (f k).toInt < v then 1 else 0) := rfl
theorem bsN_lt {w h : Int} {c s : Nat} (hw : w ≤ 6) (hh : h ≤ 6) (hc : c < 36) : bsN w h c s ≤ 36 := by
  unfold bsN
  repeat' split
  all_goals omega
theorem bsN_ne {w h : Int} {c s : Nat} (hc : c < 36) : bsN w h c s ≠ c := by
  unfold bsN
  repeat' split
  all_goals omega
theorem coL_b {n : Nat → Int32} (h : NB n) {c : Nat} (hc : c < 36) : 1 ≤ coL n c ∧ coL n c ≤ 4 := by
  have h1 := ld_NB_71 h (71 + c) (by omega) (by omega)
  unfold coL
  split <;> omega
theorem fbD_pos {n f : Nat → Int32} {b d : Nat} (h : NB n) (hf : ∀ c, c < 36 → 0 ≤ (f c).toInt ∧ (f c).toInt ≤ 100000) (hd : d ≤ 36) : 65 ≤ fbD n f b d ∧ fbD n f b d ≤ 100256 := by
  unfold fbD
  split
  · omega
  · have h1 := coL_b h (c := d) (by omega)
    have h2 := hf d (by omega)
    split
    · omega
    · split <;> omega
theorem fbD_upd {n f : Nat → Int32} {b d c : Nat} {v : Int32} (hv : v.toInt ≤ (f c).toInt) (hlt : fbD n f b d < 100000) : fbD n (upd f c v) b d ≤ fbD n f b d := by
  unfold fbD at hlt ⊢
  by_cases e : d = c
  · subst e
    rw [upd_eq]
    split at hlt
    · omega
    · split at hlt
      · omega
      · split at hlt
        · omega
        · rename_i h1 h2 h3
          rw [if_neg h1, if_neg h2, if_neg (by omega), if_neg h1, if_neg h2, if_neg h3]
          omega
  · rw [upd_ne e]
    exact Int.le_refl _
theorem fbD_same {n f : Nat → Int32} {b d c : Nat} {v : Int32} (e : d ≠ c) : fbD n (upd f c v) b d = fbD n f b d := by
  unfold fbD
  rw [upd_ne e]
theorem FI_init {n f : Nat → Int32} {b g : Nat} (h : ∀ j, j < 36 → (f j).toInt = 100000) : FI n (upd f g (nI 0)) b g := by
  have h0 : (nI 0).toInt = 0 := by decide
  refine ⟨fun c hc => ?_, by rw [upd_eq]; exact h0, fun c hc hg hl => ?_⟩
  · by_cases e : c = g
    · rw [e, upd_eq, h0]; omega
    · rw [upd_ne e, h c hc]; omega
  · rw [upd_ne hg, h c hc] at hl; omega
theorem FI_step {n f : Nat → Int32} {b g c s : Nat} {v : Int32} (hN : NB n) (h : FI n f b g) (hc : c < 36) (hs : inS n c) (h4 : s < 4) (hv : v.toInt = fbL n f b c s) (hl : v.toInt < (f c).toInt) : FI n (upd f c v) b g := by
  obtain ⟨h1, h2, h3⟩ := h
  have hw := ld_NB_0 hN 0 (by omega) (by omega)
  have hh := ld_NB_1 hN 1 (by omega) (by omega)
  have hp := fbD_pos (b := b) hN h1 (d := bsN (n 0).toInt (n 1).toInt c s) (bsN_lt (by omega) (by omega) hc)
  have hp' : 65 ≤ fbL n f b c s := hp.1
  have hcg : g ≠ c := fun e => by rw [e] at h2; omega
  refine ⟨fun c' hc' => ?_, by rw [upd_ne hcg]; exact h2, fun c' hc' hg' hl' => ?_⟩
  · by_cases e : c' = c
    · rw [e, upd_eq]; have := h1 c hc; omega
    · rw [upd_ne e]; exact h1 c' hc'
  · by_cases e : c' = c
    · subst e
      refine ⟨hs, s, h4, ?_⟩
      rw [upd_eq, hv]
      unfold fbL
      rw [fbD_same (bsN_ne hc)]
      exact Int.le_refl _
    · rw [upd_ne e] at hl' ⊢
      obtain ⟨a1, s', a2, a3⟩ := h3 c' hc' hg' hl'
      exact ⟨a1, s', a2, Int.le_trans (fbD_upd (by omega) (Int.lt_of_le_of_lt a3 hl')) a3⟩
theorem FX_zero (n f : Nat → Int32) (b : Nat) : FX n f b 0 0 := fun c' _ _ s' _ h => by omega
theorem FX_next {n f : Nat → Int32} {b c s : Nat} (h : FX n f b c s) (hl : (f c).toInt ≤ fbL n f b c s) : FX n f b c (s + 1) := fun c' h1 h2 s' h3 h4 => by
  by_cases e : c' = c ∧ s' = s
  · rw [e.1, e.2]; exact hl
  · exact h c' h1 h2 s' h3 (by omega)
theorem FX_full {n f : Nat → Int32} {b c s : Nat} (h : FX n f b c s) (h4 : 4 ≤ s) : FX n f b (c + 1) 0 := fun c' h1 h2 s' h3 h5 => h c' h1 h2 s' h3 (by omega)
theorem FX_skip {n f : Nat → Int32} {b c : Nat} (h : FX n f b c 0) (hs : ¬ inS n c) : FX n f b (c + 1) 0 := fun c' h1 h2 s' h3 h5 => by
  by_cases e : c' = c
  · rw [e] at h2; exact absurd h2 hs
  · exact h c' h1 h2 s' h3 (by omega)
theorem FX_all {n f : Nat → Int32} {b c : Nat} (h : FX n f b c 0) (hc : 36 ≤ c) : FX n f b 36 0 := fun c' h1 h2 s' h3 h5 => h c' h1 h2 s' h3 (by omega)
theorem way_ok {n f : Nat → Int32} {b g : Nat} (h : FI n f b g) (hx : FX n f b 36 0) {c : Nat} (hc : c < 36) (hg : c ≠ g) (hl : (f c).toInt < 100000) : ∃ s9, s9 < 4 ∧ fbL n f b c s9 = (f c).toInt := by
  obtain ⟨a1, s, a2, a3⟩ := h.2.2 c hc hg hl
  exact ⟨s, a2, Int.le_antisymm a3 (hx c hc a1 s a2 (Or.inl hc))⟩
theorem way_next {n f : Nat → Int32} {b c k : Nat} {v : Int} (hW : ∃ s9, s9 < 4 ∧ fbL n f b c s9 = v) (hns : ∀ s9, s9 < k → ¬ fbL n f b c s9 = v) (hk : ¬ fbL n f b c k = v) : k + 1 < 4 := by
  obtain ⟨s, h1, h2⟩ := hW
  by_cases e : s < k
  · exact absurd h2 (hns s e)
  · by_cases e2 : s = k
    · rw [e2] at h2; exact absurd h2 hk
    · omega
theorem fbL_none {n f : Nat → Int32} {b c s : Nat} (h : bsN (n 0).toInt (n 1).toInt c s = 36) : fbL n f b c s = 100000 := by
  unfold fbL fbD
  rw [h, if_pos rfl]
theorem fbL_some {n f : Nat → Int32} {b c s d : Nat} (hN : NB n) (h : d = bsN (n 0).toInt (n 1).toInt c s) (hd : d < 36) (hl : fbL n f b c s < 100000) : (f d).toInt < fbL n f b c s ∧ (f d).toInt < 100000 := by
  unfold fbL fbD at hl ⊢
  rw [← h] at hl ⊢
  have h1 := coL_b hN hd
  rw [if_neg (by omega)] at hl ⊢
  split at hl
  · omega
  · split at hl
    · omega
    · rename_i h2 h3
      rw [if_neg h2, if_neg h3]
      omega
theorem sumF_upd {f : Nat → Int32} {c : Nat} {v : Int32} (h0 : 0 ≤ v.toInt) (hl : v.toInt < (f c).toInt) : ∀ k, sumF (upd f c v) k = sumF f k ∧ k ≤ c ∨ sumF (upd f c v) k < sumF f k ∧ c < k := by
  intro k
  induction k with
  | zero => exact Or.inl ⟨rfl, Nat.zero_le _⟩
  | succ k ih =>
    rw [sumF_s, sumF_s]
    by_cases e : k = c
    · subst e
      rw [upd_eq]
      rcases ih with ⟨h1, h2⟩ | ⟨h1, h2⟩
      · exact Or.inr ⟨by omega, by omega⟩
      · omega
    · rw [upd_ne e]
      rcases ih with ⟨h1, h2⟩ | ⟨h1, h2⟩
      · exact Or.inl ⟨by omega, by omega⟩
      · exact Or.inr ⟨by omega, by omega⟩
theorem sumF_lt {f : Nat → Int32} {c : Nat} {v : Int32} (hc : c < 36) (h0 : 0 ≤ v.toInt) (hl : v.toInt < (f c).toInt) : sumF (upd f c v) 36 < sumF f 36 := by
  rcases sumF_upd h0 hl 36 with ⟨_, h⟩ | ⟨h, _⟩
  · omega
  · exact h
theorem rankF_le {f : Nat → Int32} {u v : Int} (h : u ≤ v) : ∀ k, rankF f u k ≤ rankF f v k := by
  intro k
  induction k with
  | zero => exact Nat.le_refl _
  | succ k ih =>
    rw [rankF_s, rankF_s]
    split <;> split <;> omega
theorem rankF_lt0 {f : Nat → Int32} {v : Int} {d : Nat} (hl : (f d).toInt < v) : ∀ k, d < k → rankF f (f d).toInt k < rankF f v k := by
  intro k
  induction k with
  | zero => intro h; omega
  | succ k ih =>
    intro hk
    rw [rankF_s, rankF_s]
    by_cases e : d = k
    · subst e
      rw [if_neg (by omega), if_pos hl]
      have := rankF_le (f := f) (Int.le_of_lt hl) d
      omega
    · have h1 := ih (by omega)
      split <;> split <;> omega
theorem rankF_b {f : Nat → Int32} {v : Int} : ∀ k, rankF f v k ≤ k := by
  intro k
  induction k with
  | zero => exact Nat.le_refl _
  | succ k ih => rw [rankF_s]; split <;> omega
theorem rankF_35 {f : Nat → Int32} {c : Nat} (hc : c < 36) : rankF f (f c).toInt 36 ≤ 35 := by
  have h : ∀ k, c < k → rankF f (f c).toInt k + 1 ≤ k := by
    intro k
    induction k with
    | zero => intro h; omega
    | succ k ih =>
      intro hk
      rw [rankF_s]
      by_cases e : c = k
      · subst e
        rw [if_neg (by omega)]
        have := rankF_b (f := f) (v := (f c).toInt) c
        omega
      · have := ih (by omega)
        split <;> omega
  have := h 36 hc
  omega
set_option maxRecDepth 20000 in
theorem lf_x_hasSkinE_1 (knowF : Nat → Int32) (y101 : Int32) (y103 : Int32) (ab_now : NB knowF) (e102 : y101 = knowF 68) (e104 : y103 = knowF 6) (c105 : y103 < y101) : ((nI 0) = nI 1 ∧ ((knowF 68).toInt ≤ (knowF 6).toInt)) ∨ ((nI 0) = nI 0 ∧ (¬ (knowF 68).toInt ≤ (knowF 6).toInt)) := by
  have b_y101 := ia_b y101
  have b_y103 := ia_b y103
  try have k_0 := ia_n 0 (by first | decide | omega)
  try have k_1 := ia_n 1 (by first | decide | omega)
  try simp only [ia_lt, ia_le, ia_eq, ia_m1, ia_0, ia_1, ne_eq, true_and, and_true, false_and, and_false, or_false, false_or, or_true, true_or, not_true_eq_false, not_false_eq_true] at *
  all_goals omega
set_option maxRecDepth 20000 in
theorem lf_x_hasSkinE_2 (knowF : Nat → Int32) (y101 : Int32) (y103 : Int32) (ab_now : NB knowF) (e102 : y101 = knowF 68) (e104 : y103 = knowF 6) (c105 : ¬ y103 < y101) : ((nI 1) = nI 1 ∧ ((knowF 68).toInt ≤ (knowF 6).toInt)) ∨ ((nI 1) = nI 0 ∧ (¬ (knowF 68).toInt ≤ (knowF 6).toInt)) := by
  have b_y101 := ia_b y101
  have b_y103 := ia_b y103
  try have k_0 := ia_n 1 (by first | decide | omega)
  try have k_1 := ia_n 0 (by first | decide | omega)
  try simp only [ia_lt, ia_le, ia_eq, ia_m1, ia_0, ia_1, ne_eq, true_and, and_true, false_and, and_false, or_false, false_or, or_true, true_or, not_true_eq_false, not_false_eq_true] at *
  all_goals omega
set_option maxHeartbeats 4000000 in
set_option maxRecDepth 100000 in
theorem c_x_hasSkinE (l : Launch) (dC : Nat → ClassId) (dI : Nat → Nat → Nat) (ky : Nat → ClassId) (o : Nat) (kthrown : Int32) (ktape : Nat) (ktaped : Nat) (ksize : Nat) (klimit : Nat) (kto : Nat) (kfrom : Nat) (kkind : Int32) (knumber : Int32) (ksign : Int32) (kfault : Int32) (kplace : Int32) (kword : Int64) (ktold : Int32) (know : Nat) (kread : Nat) (kkept : Nat) (ksnaps : Nat) (kaside : Nat) (kname : Nat) (kreadName : Nat) (kkeptName : Nat) (kisKept : Nat) (konces : Nat) (ksnapMany : Nat) (khasCells : Int32) (kpoured : Nat) (kfar : Nat) (ksides : Nat) (ksideMany : Nat) (kwayDays : Int32) (khasWay : Int32) (klines : Nat) (kmet : Nat) (kmetMany : Nat) (ksunk : Nat) (ktrying : Nat) (ksunkMany : Nat) (ksending : Int32) (kfleets : Int32) (ktext : Nat) (ktexts : Nat) (kseed : Int32) (kline : Nat) (kwritten : Nat) (klineMany : Nat) (khasWritten : Int32) (knode : Nat) (knodes : Nat) (konesMany : Nat) (kwithin : Nat) (ktop : Nat) (knowF : Nat → Int32) (iv_ko_0 : ktaped ≤ 940) (iv_ko_1 : ksize ≤ 940) (iv_ko_2 : klimit ≤ 900) (iv_ko_3 : kto ≤ ksize) (iv_ko_4 : kfrom ≤ 940) (iv_ko_5 : ksnapMany ≤ 8) (iv_ko_6 : ksideMany ≤ 36) (iv_ko_7 : kmetMany ≤ 3) (iv_ko_8 : ksunkMany ≤ 36) (iv_ko_9 : ktexts ≤ 64) (iv_ko_10 : klineMany ≤ 40) (iv_ko_11 : knodes ≤ 60) (iv_ko_12 : konesMany ≤ 20) (iv_ko_13 : kwithin ≤ 8) (iv_ko_14 : ktop ≤ 59) (ab_now : NB knowF) : Met l yX12_hasSkin wsX12_hasSkin ({ frames := 0, cells := 0, slots := 0, locals := 0 }) (PcP dC dI ky [.ref o] [(o, .inr (12, [.int kthrown, .ref ktape, .int (nI ktaped), .int (nI ksize), .int (nI klimit), .int (nI kto), .int (nI kfrom), .int kkind, .int knumber, .int ksign, .int kfault, .int kplace, .long kword, .int ktold, .ref know, .ref kread, .ref kkept, .ref ksnaps, .ref kaside, .ref kname, .ref kreadName, .ref kkeptName, .ref kisKept, .ref konces, .int (nI ksnapMany), .int khasCells, .ref kpoured, .ref kfar, .ref ksides, .int (nI ksideMany), .int kwayDays, .int khasWay, .ref klines, .ref kmet, .int (nI kmetMany), .ref ksunk, .ref ktrying, .int (nI ksunkMany), .int ksending, .int kfleets, .ref ktext, .int (nI ktexts), .int kseed, .ref kline, .ref kwritten, .int (nI klineMany), .int khasWritten, .ref knode, .int (nI knodes), .int (nI konesMany), .int (nI kwithin), .int (nI ktop)])), (know, .inl (ky 0, 373, .inl knowF))]) (vp_Si (fun r : Int32 => (r = nI 1 ∧ ((knowF 68).toInt ≤ (knowF 6).toInt)) ∨ (r = nI 0 ∧ (¬ (knowF 68).toInt ≤ (knowF 6).toInt)))) 0 0 (fun _ => False) := by
  refine Met.ofW (cc := cX12_hasSkin) (maxL := 1) (ret := (some .boolean)) (by decide) rfl ?_
  intro p e s m args below meth c s₁ B hml hv
  obtain ⟨rfl, hP, hK⟩ := hv
  have hx := B.exec
  have hb := B.bytes
  have hr := B.returns
  have hts := atoms_spec (ws := wsX12_hasSkin) B.pre
  have hown : s.vm.findClass RX12 = some m.cls := findClass_of_methodNamed B.named
  have hlocks := B.notSynchronized
  have hin12 : ∀ w ∈ u_ws RX12 TX12 52, w ∈ wsX12_hasSkin := by decide +kernel
  have hl := lv_entry ([.ref o]) (n := 1) (Nat.le_of_ble_eq_true rfl)
  rw [lg_entry_eq]
  generalize (lg_sl ([.ref o]) ++ List.replicate (1 - (lg_sl ([.ref o])).length) Slot.unset).toArray = ls at hl ⊢
  have hl : lv_has ls 1 [(0, .ref o)] := hl
  refine q_name (fun Q hQ => ?_)
  generalize ([.ref o] : List Value).toArray = args at hts hQ ⊢
  refine lv_aload_n hx hb dX12_hasSkin_0 rfl (lv_at hl 0 rfl) ?_
  refine va_get (D := (dC, dI)) (ci := 12) (v := .ref know) (C := RX12) (T := TX12) (N := 52) hx hb hts hin12 hown hK hP 0 rfl rfl 14 (by decide) (hts (.fieldLink RX12 98 "PorridgeSeaModel" "now" "[I") (List.mem_of_getElem? (i := 1) rfl)) (fun _ h9 => h9) rfl dX12_hasSkin_1 ?_
  refine lv_bipush (v := nI 68) hx hb dX12_hasSkin_4 (by decide) ?_
  obtain ⟨y101, e102⟩ : ∃ z9, z9 = knowF 68 := ⟨_, rfl⟩
  refine r_iald hx hb hK hP 1 rfl 68 (by decide) (by decide) y101 e102.symm dX12_hasSkin_6 ?_
  refine lv_aload_n hx hb dX12_hasSkin_7 rfl (lv_at hl 0 rfl) ?_
  refine va_get (D := (dC, dI)) (ci := 12) (v := .ref know) (C := RX12) (T := TX12) (N := 52) hx hb hts hin12 hown hK hP 0 rfl rfl 14 (by decide) (hts (.fieldLink RX12 98 "PorridgeSeaModel" "now" "[I") (List.mem_of_getElem? (i := 1) rfl)) (fun _ h9 => h9) rfl dX12_hasSkin_8 ?_
  refine lv_bipush (v := nI 6) hx hb dX12_hasSkin_11 (by decide) ?_
  obtain ⟨y103, e104⟩ : ∃ z9, z9 = knowF 6 := ⟨_, rfl⟩
  refine r_iald hx hb hK hP 1 rfl 6 (by decide) (by decide) y103 e104.symm dX12_hasSkin_13 ?_
  refine lv_icmp_gt (tgt := 21) hx hb dX12_hasSkin_14 (by decide) (fun c105 => ?_) (fun c105 => ?_)
  · refine lv_iconst (v := nI 0) hx hb dX12_hasSkin_21 (by decide) ?_
    rw [hQ]
    exact W.zret (v := nI 0) hx hb hr (by decide) (fun t9 ht9 hW9 => ⟨nI 0, rfl, (lf_x_hasSkinE_1 knowF y101 y103 ab_now e102 e104 c105), ht9⟩) (fun _ h => absurd h List.not_mem_nil) dX12_hasSkin_22
  · refine lv_iconst (v := nI 1) hx hb dX12_hasSkin_17 (by decide) ?_
    refine lv_goto (tgt := 22) hx hb dX12_hasSkin_18 (by decide) ?_
    rw [hQ]
    exact W.zret (v := nI 1) hx hb hr (by decide) (fun t9 ht9 hW9 => ⟨nI 1, rfl, (lf_x_hasSkinE_2 knowF y101 y103 ab_now e102 e104 c105), ht9⟩) (fun _ h => absurd h List.not_mem_nil) dX12_hasSkin_22
set_option maxRecDepth 20000 in
theorem lf_x_costOfE_1 (knowF : Nat → Int32) (cq : Nat) (ab_now : NB knowF) (hcq : cq < 36) (t3 : (knowF 68).toInt ≤ (knowF 6).toInt) : 1 ≤ 1 ∧ 1 ≤ 4 ∧ (1 : Int) = coL knowF cq := by
  unfold coL
  try simp only [ia_lt, ia_le, ia_eq, ia_m1, ia_0, ia_1, ne_eq, true_and, and_true, false_and, and_false, or_false, false_or, or_true, true_or, not_true_eq_false, not_false_eq_true] at *
  repeat' split
  all_goals omega
set_option maxRecDepth 20000 in
theorem lf_x_costOfE_2 (knowF : Nat → Int32) (cq : Nat) (y7 : Int32) (ab_now : NB knowF) (hcq : cq < 36) (t4 : ¬ (knowF 68).toInt ≤ (knowF 6).toInt) (e8 : y7 = knowF (71 + cq)) : (71 + cq) < 373 := by
  have b_y7 := ia_b y7
  try simp only [ia_lt, ia_le, ia_eq, ia_m1, ia_0, ia_1, ne_eq, true_and, and_true, false_and, and_false, or_false, false_or, or_true, true_or, not_true_eq_false, not_false_eq_true] at *
  all_goals omega
set_option maxRecDepth 20000 in
theorem lf_x_costOfE_3 (knowF : Nat → Int32) (cq : Nat) (y7 : Int32) (ab_now : NB knowF) (hcq : cq < 36) (t4 : ¬ (knowF 68).toInt ≤ (knowF 6).toInt) (e8 : y7 = knowF (71 + cq)) : 71 ≤ (71 + cq) := by
  have b_y7 := ia_b y7
  try simp only [ia_lt, ia_le, ia_eq, ia_m1, ia_0, ia_1, ne_eq, true_and, and_true, false_and, and_false, or_false, false_or, or_true, true_or, not_true_eq_false, not_false_eq_true] at *
  all_goals omega
set_option maxRecDepth 20000 in
theorem lf_x_costOfE_4 (knowF : Nat → Int32) (cq : Nat) (y7 : Int32) (ab_now : NB knowF) (hcq : cq < 36) (t4 : ¬ (knowF 68).toInt ≤ (knowF 6).toInt) (e8 : y7 = knowF (71 + cq)) : (71 + cq) < 107 := by
  have b_y7 := ia_b y7
  try simp only [ia_lt, ia_le, ia_eq, ia_m1, ia_0, ia_1, ne_eq, true_and, and_true, false_and, and_false, or_false, false_or, or_true, true_or, not_true_eq_false, not_false_eq_true] at *
  all_goals omega
set_option maxRecDepth 20000 in
theorem lf_x_costOfE_5 (knowF : Nat → Int32) (cq : Nat) (y7 : Int32) (ab_now : NB knowF) (hcq : cq < 36) (t4 : ¬ (knowF 68).toInt ≤ (knowF 6).toInt) (e8 : y7 = knowF (71 + cq)) (b9 : 0 ≤ y7.toInt) (b10 : y7.toInt ≤ 9) : 0 ≤ y7.toInt ∧ y7.toInt < ((10 : Nat) : Int) := by
  have b_y7 := ia_b y7
  try simp only [ia_lt, ia_le, ia_eq, ia_m1, ia_0, ia_1, ne_eq, true_and, and_true, false_and, and_false, or_false, false_or, or_true, true_or, not_true_eq_false, not_false_eq_true] at *
  all_goals omega
set_option maxRecDepth 20000 in
theorem lf_x_costOfE_6 (knowF : Nat → Int32) (cq : Nat) (y7 : Int32) (n11 : Nat) (ab_now : NB knowF) (hcq : cq < 36) (t4 : ¬ (knowF 68).toInt ≤ (knowF 6).toInt) (e8 : y7 = knowF (71 + cq)) (b9 : 0 ≤ y7.toInt) (b10 : y7.toInt ≤ 9) (h12 : n11 < 10) (e13 : y7 = nI n11) : 1 ≤ (1 + (n11 / 3)) ∧ (1 + (n11 / 3)) ≤ 4 ∧ ((1 + (n11 / 3)) : Int) = coL knowF cq := by
  have b_y7 := ia_b y7
  try have k_0 := ia_n n11 (by first | decide | omega)
  unfold coL
  try simp only [ia_lt, ia_le, ia_eq, ia_m1, ia_0, ia_1, ne_eq, true_and, and_true, false_and, and_false, or_false, false_or, or_true, true_or, not_true_eq_false, not_false_eq_true] at *
  repeat' split
  all_goals omega
set_option maxHeartbeats 4000000 in
set_option maxRecDepth 100000 in
theorem c_x_costOfE (l : Launch) (dC : Nat → ClassId) (dI : Nat → Nat → Nat) (ky : Nat → ClassId) (o : Nat) (kthrown : Int32) (ktape : Nat) (ktaped : Nat) (ksize : Nat) (klimit : Nat) (kto : Nat) (kfrom : Nat) (kkind : Int32) (knumber : Int32) (ksign : Int32) (kfault : Int32) (kplace : Int32) (kword : Int64) (ktold : Int32) (know : Nat) (kread : Nat) (kkept : Nat) (ksnaps : Nat) (kaside : Nat) (kname : Nat) (kreadName : Nat) (kkeptName : Nat) (kisKept : Nat) (konces : Nat) (ksnapMany : Nat) (khasCells : Int32) (kpoured : Nat) (kfar : Nat) (ksides : Nat) (ksideMany : Nat) (kwayDays : Int32) (khasWay : Int32) (klines : Nat) (kmet : Nat) (kmetMany : Nat) (ksunk : Nat) (ktrying : Nat) (ksunkMany : Nat) (ksending : Int32) (kfleets : Int32) (ktext : Nat) (ktexts : Nat) (kseed : Int32) (kline : Nat) (kwritten : Nat) (klineMany : Nat) (khasWritten : Int32) (knode : Nat) (knodes : Nat) (konesMany : Nat) (kwithin : Nat) (ktop : Nat) (knowF : Nat → Int32) (cq : Nat) (iv_ko_0 : ktaped ≤ 940) (iv_ko_1 : ksize ≤ 940) (iv_ko_2 : klimit ≤ 900) (iv_ko_3 : kto ≤ ksize) (iv_ko_4 : kfrom ≤ 940) (iv_ko_5 : ksnapMany ≤ 8) (iv_ko_6 : ksideMany ≤ 36) (iv_ko_7 : kmetMany ≤ 3) (iv_ko_8 : ksunkMany ≤ 36) (iv_ko_9 : ktexts ≤ 64) (iv_ko_10 : klineMany ≤ 40) (iv_ko_11 : knodes ≤ 60) (iv_ko_12 : konesMany ≤ 20) (iv_ko_13 : kwithin ≤ 8) (iv_ko_14 : ktop ≤ 59) (ab_now : NB knowF) (hcq : cq < 36) : Met l yX12_costOf wsX12_costOf ({ frames := 1, cells := 0, slots := 0, locals := 20 }) (PcP dC dI ky [.ref o, .int (nI cq)] [(o, .inr (12, [.int kthrown, .ref ktape, .int (nI ktaped), .int (nI ksize), .int (nI klimit), .int (nI kto), .int (nI kfrom), .int kkind, .int knumber, .int ksign, .int kfault, .int kplace, .long kword, .int ktold, .ref know, .ref kread, .ref kkept, .ref ksnaps, .ref kaside, .ref kname, .ref kreadName, .ref kkeptName, .ref kisKept, .ref konces, .int (nI ksnapMany), .int khasCells, .ref kpoured, .ref kfar, .ref ksides, .int (nI ksideMany), .int kwayDays, .int khasWay, .ref klines, .ref kmet, .int (nI kmetMany), .ref ksunk, .ref ktrying, .int (nI ksunkMany), .int ksending, .int kfleets, .ref ktext, .int (nI ktexts), .int kseed, .ref kline, .ref kwritten, .int (nI klineMany), .int khasWritten, .ref knode, .int (nI knodes), .int (nI konesMany), .int (nI kwithin), .int (nI ktop)])), (know, .inl (ky 0, 373, .inl knowF))]) (vp_Si (fun r : Int32 => ∃ k9 : Nat, (1 ≤ k9 ∧ k9 ≤ 4 ∧ (k9 : Int) = coL knowF cq) ∧ r = nI k9)) 0 0 (fun _ => False) := by
  refine Met.ofW (cc := cX12_costOf) (maxL := 2) (ret := (some .int)) (by decide) rfl ?_
  intro p e s m args below meth c s₁ B hml hv
  obtain ⟨rfl, hP, hK⟩ := hv
  have hx := B.exec
  have hb := B.bytes
  have hr := B.returns
  have hts := atoms_spec (ws := wsX12_costOf) B.pre
  have hown : s.vm.findClass RX12 = some m.cls := findClass_of_methodNamed B.named
  have hlocks := B.notSynchronized
  have hin12 : ∀ w ∈ u_ws RX12 TX12 52, w ∈ wsX12_costOf := by decide +kernel
  have hl := lv_entry ([.ref o, .int (nI cq)]) (n := 2) (Nat.le_of_ble_eq_true rfl)
  rw [lg_entry_eq]
  generalize (lg_sl ([.ref o, .int (nI cq)]) ++ List.replicate (2 - (lg_sl ([.ref o, .int (nI cq)])).length) Slot.unset).toArray = ls at hl ⊢
  have hl : lv_has ls 2 [(0, .ref o), (1, .int (nI cq))] := hl
  refine q_name (fun Q hQ => ?_)
  generalize ([.ref o, .int (nI cq)] : List Value).toArray = args at hts hQ ⊢
  refine lv_aload_n hx hb dX12_costOf_0 rfl (lv_at hl 0 rfl) ?_
  refine vp_callSi (W.runV (As := []) (rest := []) ⟨hx, hb, hml, hown, hts⟩ (c_x_hasSkinE l dC dI ky o kthrown ktape ktaped ksize klimit kto kfrom kkind knumber ksign kfault kplace kword ktold know kread kkept ksnaps kaside kname kreadName kkeptName kisKept konces ksnapMany khasCells kpoured kfar ksides ksideMany kwayDays khasWay klines kmet kmetMany ksunk ktrying ksunkMany ksending kfleets ktext ktexts kseed kline kwritten klineMany khasWritten knode knodes konesMany kwithin ktop knowF iv_ko_0 iv_ko_1 iv_ko_2 iv_ko_3 iv_ko_4 iv_ko_5 iv_ko_6 iv_ko_7 iv_ko_8 iv_ko_9 iv_ko_10 iv_ko_11 iv_ko_12 iv_ko_13 iv_ko_14 ab_now) (cwV 0 hts gX12_costOf_X12_hasSkin rfl rfl rfl (by decide +kernel) ⟨(Nat.le_of_ble_eq_true rfl), (Nat.le_of_ble_eq_true rfl)⟩) (pre_PV hK hP [0, 1] rfl (ci := 12) (q0 := 0) rfl rfl) rfl rfl hl.1 rfl (lv_room (Nat.le_of_ble_eq_true rfl)) dX12_costOf_1 ⟨(Nat.le_of_ble_eq_true rfl), (Nat.le_of_ble_eq_true rfl)⟩) (fun r1 p2 => ?_)
  rcases p2 with ⟨rfl, t3⟩ | ⟨rfl, t4⟩
  · refine lv_if_eq (tgt := 11) hx hb dX12_costOf_4 (by decide) (fun c5 => absurd c5 (by decide)) (fun c5 => ?_)
    refine lv_iconst (v := nI 1) hx hb dX12_costOf_7 (by decide) ?_
    refine lv_goto (tgt := 24) hx hb dX12_costOf_8 (by decide) ?_
    rw [hQ]
    exact W.iret (v := nI 1) hx hb hr (fun t9 ht9 hW9 => ⟨nI 1, rfl, ⟨1, (lf_x_costOfE_1 knowF cq ab_now hcq t3), rfl⟩, ht9⟩) (fun _ h => absurd h List.not_mem_nil) dX12_costOf_24
  · refine lv_if_eq (tgt := 11) hx hb dX12_costOf_4 (by decide) (fun c6 => ?_) (fun c6 => absurd (by decide) c6)
    refine lv_iconst (v := nI 1) hx hb dX12_costOf_11 (by decide) ?_
    refine lv_aload_n hx hb dX12_costOf_12 rfl (lv_at hl 0 rfl) ?_
    refine va_get (D := (dC, dI)) (ci := 12) (v := .ref know) (C := RX12) (T := TX12) (N := 52) hx hb hts hin12 hown hK hP 0 rfl rfl 14 (by decide) (hts (.fieldLink RX12 98 "PorridgeSeaModel" "now" "[I") (List.mem_of_getElem? (i := 1) rfl)) (fun _ h9 => h9) rfl dX12_costOf_13 ?_
    refine lv_bipush (v := nI 71) hx hb dX12_costOf_16 (by decide) ?_
    refine lv_iload_n hx hb dX12_costOf_18 rfl (lv_at hl 1 rfl) ?_
    refine lv_iadd hx hb dX12_costOf_19 ?_
    refine r_ti (nI (71 + cq)) (nI_add _ _) ?_
    obtain ⟨y7, e8⟩ : ∃ z9, z9 = knowF (71 + cq) := ⟨_, rfl⟩
    refine r_iald hx hb hK hP 1 rfl (71 + cq) (lf_x_costOfE_2 knowF cq y7 ab_now hcq t4 e8) (by decide) y7 e8.symm dX12_costOf_20 ?_
    obtain ⟨b9, b10⟩ : (0 : Int) ≤ y7.toInt ∧ y7.toInt ≤ 9 := by rw [e8]; exact ld_NB_71 ab_now (71 + cq) (lf_x_costOfE_3 knowF cq y7 ab_now hcq t4 e8) (lf_x_costOfE_4 knowF cq y7 ab_now hcq t4 e8)
    refine lv_iconst (v := nI 3) hx hb dX12_costOf_21 (by decide) ?_
    obtain ⟨n11, h12, e13⟩ := nat_of y7 10 (by decide) (lf_x_costOfE_5 knowF cq y7 ab_now hcq t4 e8 b9 b10)
    rw [e13]
    refine lv_idiv hx hb dX12_costOf_22 (by decide) ?_
    refine r_ti (nI (n11 / 3)) (pk_div (by omega) (by omega) (by omega)) ?_
    refine lv_iadd hx hb dX12_costOf_23 ?_
    refine r_ti (nI (1 + (n11 / 3))) (nI_add _ _) ?_
    rw [hQ]
    exact W.iret (v := nI (1 + (n11 / 3))) hx hb hr (fun t9 ht9 hW9 => ⟨nI (1 + (n11 / 3)), rfl, ⟨(1 + (n11 / 3)), (lf_x_costOfE_6 knowF cq y7 n11 ab_now hcq t4 e8 b9 b10 h12 e13), rfl⟩, ht9⟩) (fun _ h => absurd h List.not_mem_nil) dX12_costOf_24
set_option maxRecDepth 20000 in
theorem lf_x_besideE_1 (knowF : Nat → Int32) (cq : Nat) (sq : Nat) (ab_now : NB knowF) (hcq : cq < 36) (hsq : sq < 4) (c101 : 0 < sq) (c102 : sq ≠ 2) (c103 : sq ≠ 1) (c104 : sq ≤ 2) (t107 : 0 ≤ (nI ((cq % 6) + 0)).toInt) (t108 : (nI ((cq % 6) + 0)).toInt < (knowF 0).toInt) (t109 : 0 ≤ (nI ((cq / 6) + 0)).toInt) (t110 : (nI ((cq / 6) + 0)).toInt < (knowF 1).toInt) (t111 : (nI ((cq % 6) + 0)).toInt ≤ 5) (t112 : (nI ((cq / 6) + 0)).toInt ≤ 5) : ((6 * ((cq / 6) + 0)) + ((cq % 6) + 0)) < 36 ∧ ((6 * ((cq / 6) + 0)) + ((cq % 6) + 0)) = bsN (knowF 0).toInt (knowF 1).toInt cq sq := by
  try have k_0 := ia_n ((cq % 6) + 0) (by first | decide | omega)
  try have k_1 := ia_n ((cq / 6) + 0) (by first | decide | omega)
  unfold bsN
  try simp only [ia_lt, ia_le, ia_eq, ia_m1, ia_0, ia_1, ne_eq, true_and, and_true, false_and, and_false, or_false, false_or, or_true, true_or, not_true_eq_false, not_false_eq_true] at *
  repeat' split
  all_goals omega
set_option maxRecDepth 20000 in
theorem lf_x_besideE_2 (knowF : Nat → Int32) (cq : Nat) (sq : Nat) (ab_now : NB knowF) (hcq : cq < 36) (hsq : sq < 4) (c101 : 0 < sq) (c102 : sq ≠ 2) (c103 : sq ≠ 1) (c104 : sq ≤ 2) (t113 : ¬ (0 ≤ (nI ((cq % 6) + 0)).toInt ∧ (nI ((cq % 6) + 0)).toInt < (knowF 0).toInt ∧ 0 ≤ (nI ((cq / 6) + 0)).toInt ∧ (nI ((cq / 6) + 0)).toInt < (knowF 1).toInt)) : bsN (knowF 0).toInt (knowF 1).toInt cq sq = 36 := by
  try have k_0 := ia_n ((cq % 6) + 0) (by first | decide | omega)
  try have k_1 := ia_n ((cq / 6) + 0) (by first | decide | omega)
  unfold bsN
  try simp only [ia_lt, ia_le, ia_eq, ia_m1, ia_0, ia_1, ne_eq, true_and, and_true, false_and, and_false, or_false, false_or, or_true, true_or, not_true_eq_false, not_false_eq_true] at *
  repeat' split
  all_goals omega
set_option maxRecDepth 20000 in
theorem lf_x_besideE_3 (cq : Nat) (hcq : cq < 36) : -1073741824 ≤ (nI (cq / 6)).toInt := by
  try have k_0 := ia_n (cq / 6) (by first | decide | omega)
  try simp only [ia_lt, ia_le, ia_eq, ia_m1, ia_0, ia_1, ne_eq, true_and, and_true, false_and, and_false, or_false, false_or, or_true, true_or, not_true_eq_false, not_false_eq_true] at *
  all_goals omega
set_option maxRecDepth 20000 in
theorem lf_x_besideE_4 (cq : Nat) (hcq : cq < 36) : (nI (cq / 6)).toInt ≤ 1073741823 := by
  try have k_0 := ia_n (cq / 6) (by first | decide | omega)
  try simp only [ia_lt, ia_le, ia_eq, ia_m1, ia_0, ia_1, ne_eq, true_and, and_true, false_and, and_false, or_false, false_or, or_true, true_or, not_true_eq_false, not_false_eq_true] at *
  all_goals omega
set_option maxRecDepth 20000 in
theorem lf_x_besideE_5   : -1073741824 ≤ (-1 : Int32).toInt := by
  try simp only [ia_lt, ia_le, ia_eq, ia_m1, ia_0, ia_1, ne_eq, true_and, and_true, false_and, and_false, or_false, false_or, or_true, true_or, not_true_eq_false, not_false_eq_true] at *
  all_goals omega
set_option maxRecDepth 20000 in
theorem lf_x_besideE_6   : (-1 : Int32).toInt ≤ 1073741823 := by
  try simp only [ia_lt, ia_le, ia_eq, ia_m1, ia_0, ia_1, ne_eq, true_and, and_true, false_and, and_false, or_false, false_or, or_true, true_or, not_true_eq_false, not_false_eq_true] at *
  all_goals omega
set_option maxRecDepth 20000 in
theorem lf_x_besideE_7 (cq : Nat) (y116 : Int32) (hcq : cq < 36) (f118 : y116.toInt = (nI (cq / 6)).toInt + (-1 : Int32).toInt) : -1 ≤ y116.toInt := by
  have b_y116 := ia_b y116
  try have k_0 := ia_n (cq / 6) (by first | decide | omega)
  try simp only [ia_lt, ia_le, ia_eq, ia_m1, ia_0, ia_1, ne_eq, true_and, and_true, false_and, and_false, or_false, false_or, or_true, true_or, not_true_eq_false, not_false_eq_true] at *
  all_goals omega
set_option maxRecDepth 20000 in
theorem lf_x_besideE_8 (cq : Nat) (y116 : Int32) (hcq : cq < 36) (f118 : y116.toInt = (nI (cq / 6)).toInt + (-1 : Int32).toInt) : y116.toInt ≤ 4 := by
  have b_y116 := ia_b y116
  try have k_0 := ia_n (cq / 6) (by first | decide | omega)
  try simp only [ia_lt, ia_le, ia_eq, ia_m1, ia_0, ia_1, ne_eq, true_and, and_true, false_and, and_false, or_false, false_or, or_true, true_or, not_true_eq_false, not_false_eq_true] at *
  all_goals omega
set_option maxRecDepth 20000 in
theorem lf_x_besideE_9 (knowF : Nat → Int32) (cq : Nat) (y116 : Int32) (ab_now : NB knowF) (hcq : cq < 36) (f118 : y116.toInt = (nI (cq / 6)).toInt + (-1 : Int32).toInt) (b119 : -1 ≤ y116.toInt) (b120 : y116.toInt ≤ 4) (t123 : 0 ≤ (nI ((cq % 6) + 0)).toInt) (t124 : (nI ((cq % 6) + 0)).toInt < (knowF 0).toInt) (t125 : 0 ≤ y116.toInt) (t126 : y116.toInt < (knowF 1).toInt) (t127 : (nI ((cq % 6) + 0)).toInt ≤ 5) (t128 : y116.toInt ≤ 5) : 0 ≤ y116.toInt ∧ y116.toInt < ((5 : Nat) : Int) := by
  have b_y116 := ia_b y116
  try have k_0 := ia_n (cq / 6) (by first | decide | omega)
  try have k_1 := ia_n ((cq % 6) + 0) (by first | decide | omega)
  try simp only [ia_lt, ia_le, ia_eq, ia_m1, ia_0, ia_1, ne_eq, true_and, and_true, false_and, and_false, or_false, false_or, or_true, true_or, not_true_eq_false, not_false_eq_true] at *
  all_goals omega
set_option maxRecDepth 20000 in
theorem lf_x_besideE_10 (knowF : Nat → Int32) (cq : Nat) (sq : Nat) (y116 : Int32) (n131 : Nat) (ab_now : NB knowF) (hcq : cq < 36) (hsq : sq < 4) (c101 : 0 < sq) (c102 : sq ≠ 2) (c103 : sq ≠ 1) (c104 : 2 < sq) (f118 : y116.toInt = (nI (cq / 6)).toInt + (-1 : Int32).toInt) (b119 : -1 ≤ y116.toInt) (b120 : y116.toInt ≤ 4) (t123 : 0 ≤ (nI ((cq % 6) + 0)).toInt) (t124 : (nI ((cq % 6) + 0)).toInt < (knowF 0).toInt) (t125 : 0 ≤ y116.toInt) (t126 : y116.toInt < (knowF 1).toInt) (t127 : (nI ((cq % 6) + 0)).toInt ≤ 5) (t128 : y116.toInt ≤ 5) (h132 : n131 < 5) (e133 : y116 = nI n131) : ((6 * n131) + ((cq % 6) + 0)) < 36 ∧ ((6 * n131) + ((cq % 6) + 0)) = bsN (knowF 0).toInt (knowF 1).toInt cq sq := by
  have b_y116 := ia_b y116
  try have k_0 := ia_n (cq / 6) (by first | decide | omega)
  try have k_1 := ia_n ((cq % 6) + 0) (by first | decide | omega)
  try have k_2 := ia_n n131 (by first | decide | omega)
  unfold bsN
  try simp only [ia_lt, ia_le, ia_eq, ia_m1, ia_0, ia_1, ne_eq, true_and, and_true, false_and, and_false, or_false, false_or, or_true, true_or, not_true_eq_false, not_false_eq_true] at *
  repeat' split
  all_goals omega
set_option maxRecDepth 20000 in
theorem lf_x_besideE_11 (knowF : Nat → Int32) (cq : Nat) (sq : Nat) (y116 : Int32) (ab_now : NB knowF) (hcq : cq < 36) (hsq : sq < 4) (c101 : 0 < sq) (c102 : sq ≠ 2) (c103 : sq ≠ 1) (c104 : 2 < sq) (f118 : y116.toInt = (nI (cq / 6)).toInt + (-1 : Int32).toInt) (b119 : -1 ≤ y116.toInt) (b120 : y116.toInt ≤ 4) (t129 : ¬ (0 ≤ (nI ((cq % 6) + 0)).toInt ∧ (nI ((cq % 6) + 0)).toInt < (knowF 0).toInt ∧ 0 ≤ y116.toInt ∧ y116.toInt < (knowF 1).toInt)) : bsN (knowF 0).toInt (knowF 1).toInt cq sq = 36 := by
  have b_y116 := ia_b y116
  try have k_0 := ia_n (cq / 6) (by first | decide | omega)
  try have k_1 := ia_n ((cq % 6) + 0) (by first | decide | omega)
  unfold bsN
  try simp only [ia_lt, ia_le, ia_eq, ia_m1, ia_0, ia_1, ne_eq, true_and, and_true, false_and, and_false, or_false, false_or, or_true, true_or, not_true_eq_false, not_false_eq_true] at *
  repeat' split
  all_goals omega
set_option maxRecDepth 20000 in
theorem lf_x_besideE_12 (knowF : Nat → Int32) (cq : Nat) (sq : Nat) (ab_now : NB knowF) (hcq : cq < 36) (hsq : sq < 4) (c101 : 0 < sq) (c102 : sq ≠ 2) (c103 : sq = 1) (t137 : 0 ≤ (nI ((cq % 6) + 0)).toInt) (t138 : (nI ((cq % 6) + 0)).toInt < (knowF 0).toInt) (t139 : 0 ≤ (nI ((cq / 6) + 1)).toInt) (t140 : (nI ((cq / 6) + 1)).toInt < (knowF 1).toInt) (t141 : (nI ((cq % 6) + 0)).toInt ≤ 5) (t142 : (nI ((cq / 6) + 1)).toInt ≤ 5) : ((6 * ((cq / 6) + 1)) + ((cq % 6) + 0)) < 36 ∧ ((6 * ((cq / 6) + 1)) + ((cq % 6) + 0)) = bsN (knowF 0).toInt (knowF 1).toInt cq sq := by
  try have k_0 := ia_n ((cq % 6) + 0) (by first | decide | omega)
  try have k_1 := ia_n ((cq / 6) + 1) (by first | decide | omega)
  unfold bsN
  try simp only [ia_lt, ia_le, ia_eq, ia_m1, ia_0, ia_1, ne_eq, true_and, and_true, false_and, and_false, or_false, false_or, or_true, true_or, not_true_eq_false, not_false_eq_true] at *
  repeat' split
  all_goals omega
set_option maxRecDepth 20000 in
theorem lf_x_besideE_13 (knowF : Nat → Int32) (cq : Nat) (sq : Nat) (ab_now : NB knowF) (hcq : cq < 36) (hsq : sq < 4) (c101 : 0 < sq) (c102 : sq ≠ 2) (c103 : sq = 1) (t143 : ¬ (0 ≤ (nI ((cq % 6) + 0)).toInt ∧ (nI ((cq % 6) + 0)).toInt < (knowF 0).toInt ∧ 0 ≤ (nI ((cq / 6) + 1)).toInt ∧ (nI ((cq / 6) + 1)).toInt < (knowF 1).toInt)) : bsN (knowF 0).toInt (knowF 1).toInt cq sq = 36 := by
  try have k_0 := ia_n ((cq % 6) + 0) (by first | decide | omega)
  try have k_1 := ia_n ((cq / 6) + 1) (by first | decide | omega)
  unfold bsN
  try simp only [ia_lt, ia_le, ia_eq, ia_m1, ia_0, ia_1, ne_eq, true_and, and_true, false_and, and_false, or_false, false_or, or_true, true_or, not_true_eq_false, not_false_eq_true] at *
  repeat' split
  all_goals omega
set_option maxRecDepth 20000 in
theorem lf_x_besideE_14 (cq : Nat) (hcq : cq < 36) : -1073741824 ≤ (nI (cq % 6)).toInt := by
  try have k_0 := ia_n (cq % 6) (by first | decide | omega)
  try simp only [ia_lt, ia_le, ia_eq, ia_m1, ia_0, ia_1, ne_eq, true_and, and_true, false_and, and_false, or_false, false_or, or_true, true_or, not_true_eq_false, not_false_eq_true] at *
  all_goals omega
set_option maxRecDepth 20000 in
theorem lf_x_besideE_15 (cq : Nat) (hcq : cq < 36) : (nI (cq % 6)).toInt ≤ 1073741823 := by
  try have k_0 := ia_n (cq % 6) (by first | decide | omega)
  try simp only [ia_lt, ia_le, ia_eq, ia_m1, ia_0, ia_1, ne_eq, true_and, and_true, false_and, and_false, or_false, false_or, or_true, true_or, not_true_eq_false, not_false_eq_true] at *
  all_goals omega
set_option maxRecDepth 20000 in
theorem lf_x_besideE_16   : -1073741824 ≤ (-1 : Int32).toInt := by
  try simp only [ia_lt, ia_le, ia_eq, ia_m1, ia_0, ia_1, ne_eq, true_and, and_true, false_and, and_false, or_false, false_or, or_true, true_or, not_true_eq_false, not_false_eq_true] at *
  all_goals omega
set_option maxRecDepth 20000 in
theorem lf_x_besideE_17   : (-1 : Int32).toInt ≤ 1073741823 := by
  try simp only [ia_lt, ia_le, ia_eq, ia_m1, ia_0, ia_1, ne_eq, true_and, and_true, false_and, and_false, or_false, false_or, or_true, true_or, not_true_eq_false, not_false_eq_true] at *
  all_goals omega
set_option maxRecDepth 20000 in
theorem lf_x_besideE_18 (cq : Nat) (y146 : Int32) (hcq : cq < 36) (f148 : y146.toInt = (nI (cq % 6)).toInt + (-1 : Int32).toInt) : -1 ≤ y146.toInt := by
  have b_y146 := ia_b y146
  try have k_0 := ia_n (cq % 6) (by first | decide | omega)
  try simp only [ia_lt, ia_le, ia_eq, ia_m1, ia_0, ia_1, ne_eq, true_and, and_true, false_and, and_false, or_false, false_or, or_true, true_or, not_true_eq_false, not_false_eq_true] at *
  all_goals omega
set_option maxRecDepth 20000 in
theorem lf_x_besideE_19 (cq : Nat) (y146 : Int32) (hcq : cq < 36) (f148 : y146.toInt = (nI (cq % 6)).toInt + (-1 : Int32).toInt) : y146.toInt ≤ 4 := by
  have b_y146 := ia_b y146
  try have k_0 := ia_n (cq % 6) (by first | decide | omega)
  try simp only [ia_lt, ia_le, ia_eq, ia_m1, ia_0, ia_1, ne_eq, true_and, and_true, false_and, and_false, or_false, false_or, or_true, true_or, not_true_eq_false, not_false_eq_true] at *
  all_goals omega
set_option maxRecDepth 20000 in
theorem lf_x_besideE_20 (knowF : Nat → Int32) (cq : Nat) (y146 : Int32) (ab_now : NB knowF) (hcq : cq < 36) (f148 : y146.toInt = (nI (cq % 6)).toInt + (-1 : Int32).toInt) (b149 : -1 ≤ y146.toInt) (b150 : y146.toInt ≤ 4) (t155 : 0 ≤ y146.toInt) (t156 : y146.toInt < (knowF 0).toInt) (t157 : 0 ≤ (nI ((cq / 6) + 0)).toInt) (t158 : (nI ((cq / 6) + 0)).toInt < (knowF 1).toInt) (t159 : y146.toInt ≤ 5) (t160 : (nI ((cq / 6) + 0)).toInt ≤ 5) : 0 ≤ y146.toInt ∧ y146.toInt < ((5 : Nat) : Int) := by
  have b_y146 := ia_b y146
  try have k_0 := ia_n (cq % 6) (by first | decide | omega)
  try have k_1 := ia_n ((cq / 6) + 0) (by first | decide | omega)
  try simp only [ia_lt, ia_le, ia_eq, ia_m1, ia_0, ia_1, ne_eq, true_and, and_true, false_and, and_false, or_false, false_or, or_true, true_or, not_true_eq_false, not_false_eq_true] at *
  all_goals omega
set_option maxRecDepth 20000 in
theorem lf_x_besideE_21 (knowF : Nat → Int32) (cq : Nat) (sq : Nat) (y146 : Int32) (n163 : Nat) (ab_now : NB knowF) (hcq : cq < 36) (hsq : sq < 4) (c101 : 0 < sq) (c102 : sq = 2) (f148 : y146.toInt = (nI (cq % 6)).toInt + (-1 : Int32).toInt) (b149 : -1 ≤ y146.toInt) (b150 : y146.toInt ≤ 4) (c151 : sq ≠ 1) (c152 : sq ≤ 2) (t155 : 0 ≤ y146.toInt) (t156 : y146.toInt < (knowF 0).toInt) (t157 : 0 ≤ (nI ((cq / 6) + 0)).toInt) (t158 : (nI ((cq / 6) + 0)).toInt < (knowF 1).toInt) (t159 : y146.toInt ≤ 5) (t160 : (nI ((cq / 6) + 0)).toInt ≤ 5) (h164 : n163 < 5) (e165 : y146 = nI n163) : ((6 * ((cq / 6) + 0)) + n163) < 36 ∧ ((6 * ((cq / 6) + 0)) + n163) = bsN (knowF 0).toInt (knowF 1).toInt cq sq := by
  have b_y146 := ia_b y146
  try have k_0 := ia_n (cq % 6) (by first | decide | omega)
  try have k_1 := ia_n ((cq / 6) + 0) (by first | decide | omega)
  try have k_2 := ia_n n163 (by first | decide | omega)
  unfold bsN
  try simp only [ia_lt, ia_le, ia_eq, ia_m1, ia_0, ia_1, ne_eq, true_and, and_true, false_and, and_false, or_false, false_or, or_true, true_or, not_true_eq_false, not_false_eq_true] at *
  repeat' split
  all_goals omega
set_option maxRecDepth 20000 in
theorem lf_x_besideE_22 (knowF : Nat → Int32) (cq : Nat) (sq : Nat) (y146 : Int32) (ab_now : NB knowF) (hcq : cq < 36) (hsq : sq < 4) (c101 : 0 < sq) (c102 : sq = 2) (f148 : y146.toInt = (nI (cq % 6)).toInt + (-1 : Int32).toInt) (b149 : -1 ≤ y146.toInt) (b150 : y146.toInt ≤ 4) (c151 : sq ≠ 1) (c152 : sq ≤ 2) (t161 : ¬ (0 ≤ y146.toInt ∧ y146.toInt < (knowF 0).toInt ∧ 0 ≤ (nI ((cq / 6) + 0)).toInt ∧ (nI ((cq / 6) + 0)).toInt < (knowF 1).toInt)) : bsN (knowF 0).toInt (knowF 1).toInt cq sq = 36 := by
  have b_y146 := ia_b y146
  try have k_0 := ia_n (cq % 6) (by first | decide | omega)
  try have k_1 := ia_n ((cq / 6) + 0) (by first | decide | omega)
  unfold bsN
  try simp only [ia_lt, ia_le, ia_eq, ia_m1, ia_0, ia_1, ne_eq, true_and, and_true, false_and, and_false, or_false, false_or, or_true, true_or, not_true_eq_false, not_false_eq_true] at *
  repeat' split
  all_goals omega
set_option maxRecDepth 20000 in
theorem lf_x_besideE_23 (cq : Nat) (y146 : Int32) (hcq : cq < 36) (f148 : y146.toInt = (nI (cq % 6)).toInt + (-1 : Int32).toInt) (b149 : -1 ≤ y146.toInt) (b150 : y146.toInt ≤ 4) : -1073741824 ≤ (nI (cq / 6)).toInt := by
  have b_y146 := ia_b y146
  try have k_0 := ia_n (cq % 6) (by first | decide | omega)
  try have k_1 := ia_n (cq / 6) (by first | decide | omega)
  try simp only [ia_lt, ia_le, ia_eq, ia_m1, ia_0, ia_1, ne_eq, true_and, and_true, false_and, and_false, or_false, false_or, or_true, true_or, not_true_eq_false, not_false_eq_true] at *
  all_goals omega
set_option maxRecDepth 20000 in
theorem lf_x_besideE_24 (cq : Nat) (y146 : Int32) (hcq : cq < 36) (f148 : y146.toInt = (nI (cq % 6)).toInt + (-1 : Int32).toInt) (b149 : -1 ≤ y146.toInt) (b150 : y146.toInt ≤ 4) : (nI (cq / 6)).toInt ≤ 1073741823 := by
  have b_y146 := ia_b y146
  try have k_0 := ia_n (cq % 6) (by first | decide | omega)
  try have k_1 := ia_n (cq / 6) (by first | decide | omega)
  try simp only [ia_lt, ia_le, ia_eq, ia_m1, ia_0, ia_1, ne_eq, true_and, and_true, false_and, and_false, or_false, false_or, or_true, true_or, not_true_eq_false, not_false_eq_true] at *
  all_goals omega
set_option maxRecDepth 20000 in
theorem lf_x_besideE_25   : -1073741824 ≤ (-1 : Int32).toInt := by
  try simp only [ia_lt, ia_le, ia_eq, ia_m1, ia_0, ia_1, ne_eq, true_and, and_true, false_and, and_false, or_false, false_or, or_true, true_or, not_true_eq_false, not_false_eq_true] at *
  all_goals omega
set_option maxRecDepth 20000 in
theorem lf_x_besideE_26   : (-1 : Int32).toInt ≤ 1073741823 := by
  try simp only [ia_lt, ia_le, ia_eq, ia_m1, ia_0, ia_1, ne_eq, true_and, and_true, false_and, and_false, or_false, false_or, or_true, true_or, not_true_eq_false, not_false_eq_true] at *
  all_goals omega
set_option maxRecDepth 20000 in
theorem lf_x_besideE_27 (cq : Nat) (y146 : Int32) (y167 : Int32) (hcq : cq < 36) (f148 : y146.toInt = (nI (cq % 6)).toInt + (-1 : Int32).toInt) (b149 : -1 ≤ y146.toInt) (b150 : y146.toInt ≤ 4) (f169 : y167.toInt = (nI (cq / 6)).toInt + (-1 : Int32).toInt) : -1 ≤ y167.toInt := by
  have b_y146 := ia_b y146
  have b_y167 := ia_b y167
  try have k_0 := ia_n (cq % 6) (by first | decide | omega)
  try have k_1 := ia_n (cq / 6) (by first | decide | omega)
  try simp only [ia_lt, ia_le, ia_eq, ia_m1, ia_0, ia_1, ne_eq, true_and, and_true, false_and, and_false, or_false, false_or, or_true, true_or, not_true_eq_false, not_false_eq_true] at *
  all_goals omega
set_option maxRecDepth 20000 in
theorem lf_x_besideE_28 (cq : Nat) (y146 : Int32) (y167 : Int32) (hcq : cq < 36) (f148 : y146.toInt = (nI (cq % 6)).toInt + (-1 : Int32).toInt) (b149 : -1 ≤ y146.toInt) (b150 : y146.toInt ≤ 4) (f169 : y167.toInt = (nI (cq / 6)).toInt + (-1 : Int32).toInt) : y167.toInt ≤ 4 := by
  have b_y146 := ia_b y146
  have b_y167 := ia_b y167
  try have k_0 := ia_n (cq % 6) (by first | decide | omega)
  try have k_1 := ia_n (cq / 6) (by first | decide | omega)
  try simp only [ia_lt, ia_le, ia_eq, ia_m1, ia_0, ia_1, ne_eq, true_and, and_true, false_and, and_false, or_false, false_or, or_true, true_or, not_true_eq_false, not_false_eq_true] at *
  all_goals omega
set_option maxRecDepth 20000 in
theorem lf_x_besideE_29 (knowF : Nat → Int32) (cq : Nat) (y146 : Int32) (y167 : Int32) (ab_now : NB knowF) (hcq : cq < 36) (f148 : y146.toInt = (nI (cq % 6)).toInt + (-1 : Int32).toInt) (b149 : -1 ≤ y146.toInt) (b150 : y146.toInt ≤ 4) (f169 : y167.toInt = (nI (cq / 6)).toInt + (-1 : Int32).toInt) (b170 : -1 ≤ y167.toInt) (b171 : y167.toInt ≤ 4) (t174 : 0 ≤ y146.toInt) (t175 : y146.toInt < (knowF 0).toInt) (t176 : 0 ≤ y167.toInt) (t177 : y167.toInt < (knowF 1).toInt) (t178 : y146.toInt ≤ 5) (t179 : y167.toInt ≤ 5) : 0 ≤ y167.toInt ∧ y167.toInt < ((5 : Nat) : Int) := by
  have b_y146 := ia_b y146
  have b_y167 := ia_b y167
  try have k_0 := ia_n (cq % 6) (by first | decide | omega)
  try have k_1 := ia_n (cq / 6) (by first | decide | omega)
  try simp only [ia_lt, ia_le, ia_eq, ia_m1, ia_0, ia_1, ne_eq, true_and, and_true, false_and, and_false, or_false, false_or, or_true, true_or, not_true_eq_false, not_false_eq_true] at *
  all_goals omega
set_option maxRecDepth 20000 in
theorem lf_x_besideE_30 (knowF : Nat → Int32) (cq : Nat) (y146 : Int32) (y167 : Int32) (n182 : Nat) (ab_now : NB knowF) (hcq : cq < 36) (f148 : y146.toInt = (nI (cq % 6)).toInt + (-1 : Int32).toInt) (b149 : -1 ≤ y146.toInt) (b150 : y146.toInt ≤ 4) (f169 : y167.toInt = (nI (cq / 6)).toInt + (-1 : Int32).toInt) (b170 : -1 ≤ y167.toInt) (b171 : y167.toInt ≤ 4) (t174 : 0 ≤ y146.toInt) (t175 : y146.toInt < (knowF 0).toInt) (t176 : 0 ≤ y167.toInt) (t177 : y167.toInt < (knowF 1).toInt) (t178 : y146.toInt ≤ 5) (t179 : y167.toInt ≤ 5) (h183 : n182 < 5) (e184 : y167 = nI n182) : 0 ≤ y146.toInt ∧ y146.toInt < ((5 : Nat) : Int) := by
  have b_y146 := ia_b y146
  have b_y167 := ia_b y167
  try have k_0 := ia_n (cq % 6) (by first | decide | omega)
  try have k_1 := ia_n (cq / 6) (by first | decide | omega)
  try have k_2 := ia_n n182 (by first | decide | omega)
  try simp only [ia_lt, ia_le, ia_eq, ia_m1, ia_0, ia_1, ne_eq, true_and, and_true, false_and, and_false, or_false, false_or, or_true, true_or, not_true_eq_false, not_false_eq_true] at *
  all_goals omega
set_option maxRecDepth 20000 in
theorem lf_x_besideE_31 (knowF : Nat → Int32) (cq : Nat) (sq : Nat) (y146 : Int32) (y167 : Int32) (n182 : Nat) (n185 : Nat) (ab_now : NB knowF) (hcq : cq < 36) (hsq : sq < 4) (c101 : 0 < sq) (c102 : sq = 2) (f148 : y146.toInt = (nI (cq % 6)).toInt + (-1 : Int32).toInt) (b149 : -1 ≤ y146.toInt) (b150 : y146.toInt ≤ 4) (c151 : sq ≠ 1) (c152 : 2 < sq) (f169 : y167.toInt = (nI (cq / 6)).toInt + (-1 : Int32).toInt) (b170 : -1 ≤ y167.toInt) (b171 : y167.toInt ≤ 4) (t174 : 0 ≤ y146.toInt) (t175 : y146.toInt < (knowF 0).toInt) (t176 : 0 ≤ y167.toInt) (t177 : y167.toInt < (knowF 1).toInt) (t178 : y146.toInt ≤ 5) (t179 : y167.toInt ≤ 5) (h183 : n182 < 5) (e184 : y167 = nI n182) (h186 : n185 < 5) (e187 : y146 = nI n185) : ((6 * n182) + n185) < 36 ∧ ((6 * n182) + n185) = bsN (knowF 0).toInt (knowF 1).toInt cq sq := by
  have b_y146 := ia_b y146
  have b_y167 := ia_b y167
  try have k_0 := ia_n (cq % 6) (by first | decide | omega)
  try have k_1 := ia_n (cq / 6) (by first | decide | omega)
  try have k_2 := ia_n n182 (by first | decide | omega)
  try have k_3 := ia_n n185 (by first | decide | omega)
  unfold bsN
  try simp only [ia_lt, ia_le, ia_eq, ia_m1, ia_0, ia_1, ne_eq, true_and, and_true, false_and, and_false, or_false, false_or, or_true, true_or, not_true_eq_false, not_false_eq_true] at *
  repeat' split
  all_goals omega
set_option maxRecDepth 20000 in
theorem lf_x_besideE_32 (knowF : Nat → Int32) (cq : Nat) (sq : Nat) (y146 : Int32) (y167 : Int32) (ab_now : NB knowF) (hcq : cq < 36) (hsq : sq < 4) (c101 : 0 < sq) (c102 : sq = 2) (f148 : y146.toInt = (nI (cq % 6)).toInt + (-1 : Int32).toInt) (b149 : -1 ≤ y146.toInt) (b150 : y146.toInt ≤ 4) (c151 : sq ≠ 1) (c152 : 2 < sq) (f169 : y167.toInt = (nI (cq / 6)).toInt + (-1 : Int32).toInt) (b170 : -1 ≤ y167.toInt) (b171 : y167.toInt ≤ 4) (t180 : ¬ (0 ≤ y146.toInt ∧ y146.toInt < (knowF 0).toInt ∧ 0 ≤ y167.toInt ∧ y167.toInt < (knowF 1).toInt)) : bsN (knowF 0).toInt (knowF 1).toInt cq sq = 36 := by
  have b_y146 := ia_b y146
  have b_y167 := ia_b y167
  try have k_0 := ia_n (cq % 6) (by first | decide | omega)
  try have k_1 := ia_n (cq / 6) (by first | decide | omega)
  unfold bsN
  try simp only [ia_lt, ia_le, ia_eq, ia_m1, ia_0, ia_1, ne_eq, true_and, and_true, false_and, and_false, or_false, false_or, or_true, true_or, not_true_eq_false, not_false_eq_true] at *
  repeat' split
  all_goals omega
set_option maxRecDepth 20000 in
theorem lf_x_besideE_33 (knowF : Nat → Int32) (cq : Nat) (y146 : Int32) (ab_now : NB knowF) (hcq : cq < 36) (f148 : y146.toInt = (nI (cq % 6)).toInt + (-1 : Int32).toInt) (b149 : -1 ≤ y146.toInt) (b150 : y146.toInt ≤ 4) (t191 : 0 ≤ y146.toInt) (t192 : y146.toInt < (knowF 0).toInt) (t193 : 0 ≤ (nI ((cq / 6) + 1)).toInt) (t194 : (nI ((cq / 6) + 1)).toInt < (knowF 1).toInt) (t195 : y146.toInt ≤ 5) (t196 : (nI ((cq / 6) + 1)).toInt ≤ 5) : 0 ≤ y146.toInt ∧ y146.toInt < ((5 : Nat) : Int) := by
  have b_y146 := ia_b y146
  try have k_0 := ia_n (cq % 6) (by first | decide | omega)
  try have k_1 := ia_n ((cq / 6) + 1) (by first | decide | omega)
  try simp only [ia_lt, ia_le, ia_eq, ia_m1, ia_0, ia_1, ne_eq, true_and, and_true, false_and, and_false, or_false, false_or, or_true, true_or, not_true_eq_false, not_false_eq_true] at *
  all_goals omega
set_option maxRecDepth 20000 in
theorem lf_x_besideE_34 (knowF : Nat → Int32) (cq : Nat) (sq : Nat) (y146 : Int32) (n199 : Nat) (ab_now : NB knowF) (hcq : cq < 36) (hsq : sq < 4) (c101 : 0 < sq) (c102 : sq = 2) (f148 : y146.toInt = (nI (cq % 6)).toInt + (-1 : Int32).toInt) (b149 : -1 ≤ y146.toInt) (b150 : y146.toInt ≤ 4) (c151 : sq = 1) (t191 : 0 ≤ y146.toInt) (t192 : y146.toInt < (knowF 0).toInt) (t193 : 0 ≤ (nI ((cq / 6) + 1)).toInt) (t194 : (nI ((cq / 6) + 1)).toInt < (knowF 1).toInt) (t195 : y146.toInt ≤ 5) (t196 : (nI ((cq / 6) + 1)).toInt ≤ 5) (h200 : n199 < 5) (e201 : y146 = nI n199) : ((6 * ((cq / 6) + 1)) + n199) < 36 ∧ ((6 * ((cq / 6) + 1)) + n199) = bsN (knowF 0).toInt (knowF 1).toInt cq sq := by
  have b_y146 := ia_b y146
  try have k_0 := ia_n (cq % 6) (by first | decide | omega)
  try have k_1 := ia_n ((cq / 6) + 1) (by first | decide | omega)
  try have k_2 := ia_n n199 (by first | decide | omega)
  unfold bsN
  try simp only [ia_lt, ia_le, ia_eq, ia_m1, ia_0, ia_1, ne_eq, true_and, and_true, false_and, and_false, or_false, false_or, or_true, true_or, not_true_eq_false, not_false_eq_true] at *
  repeat' split
  all_goals omega
set_option maxRecDepth 20000 in
theorem lf_x_besideE_35 (knowF : Nat → Int32) (cq : Nat) (sq : Nat) (y146 : Int32) (ab_now : NB knowF) (hcq : cq < 36) (hsq : sq < 4) (c101 : 0 < sq) (c102 : sq = 2) (f148 : y146.toInt = (nI (cq % 6)).toInt + (-1 : Int32).toInt) (b149 : -1 ≤ y146.toInt) (b150 : y146.toInt ≤ 4) (c151 : sq = 1) (t197 : ¬ (0 ≤ y146.toInt ∧ y146.toInt < (knowF 0).toInt ∧ 0 ≤ (nI ((cq / 6) + 1)).toInt ∧ (nI ((cq / 6) + 1)).toInt < (knowF 1).toInt)) : bsN (knowF 0).toInt (knowF 1).toInt cq sq = 36 := by
  have b_y146 := ia_b y146
  try have k_0 := ia_n (cq % 6) (by first | decide | omega)
  try have k_1 := ia_n ((cq / 6) + 1) (by first | decide | omega)
  unfold bsN
  try simp only [ia_lt, ia_le, ia_eq, ia_m1, ia_0, ia_1, ne_eq, true_and, and_true, false_and, and_false, or_false, false_or, or_true, true_or, not_true_eq_false, not_false_eq_true] at *
  repeat' split
  all_goals omega
set_option maxRecDepth 20000 in
theorem lf_x_besideE_36 (knowF : Nat → Int32) (cq : Nat) (sq : Nat) (ab_now : NB knowF) (hcq : cq < 36) (hsq : sq < 4) (c101 : sq = 0) (c203 : sq ≠ 1) (c204 : sq ≤ 2) (t207 : 0 ≤ (nI ((cq % 6) + 1)).toInt) (t208 : (nI ((cq % 6) + 1)).toInt < (knowF 0).toInt) (t209 : 0 ≤ (nI ((cq / 6) + 0)).toInt) (t210 : (nI ((cq / 6) + 0)).toInt < (knowF 1).toInt) (t211 : (nI ((cq % 6) + 1)).toInt ≤ 5) (t212 : (nI ((cq / 6) + 0)).toInt ≤ 5) : ((6 * ((cq / 6) + 0)) + ((cq % 6) + 1)) < 36 ∧ ((6 * ((cq / 6) + 0)) + ((cq % 6) + 1)) = bsN (knowF 0).toInt (knowF 1).toInt cq sq := by
  try have k_0 := ia_n ((cq % 6) + 1) (by first | decide | omega)
  try have k_1 := ia_n ((cq / 6) + 0) (by first | decide | omega)
  unfold bsN
  try simp only [ia_lt, ia_le, ia_eq, ia_m1, ia_0, ia_1, ne_eq, true_and, and_true, false_and, and_false, or_false, false_or, or_true, true_or, not_true_eq_false, not_false_eq_true] at *
  repeat' split
  all_goals omega
set_option maxRecDepth 20000 in
theorem lf_x_besideE_37 (knowF : Nat → Int32) (cq : Nat) (sq : Nat) (ab_now : NB knowF) (hcq : cq < 36) (hsq : sq < 4) (c101 : sq = 0) (c203 : sq ≠ 1) (c204 : sq ≤ 2) (t213 : ¬ (0 ≤ (nI ((cq % 6) + 1)).toInt ∧ (nI ((cq % 6) + 1)).toInt < (knowF 0).toInt ∧ 0 ≤ (nI ((cq / 6) + 0)).toInt ∧ (nI ((cq / 6) + 0)).toInt < (knowF 1).toInt)) : bsN (knowF 0).toInt (knowF 1).toInt cq sq = 36 := by
  try have k_0 := ia_n ((cq % 6) + 1) (by first | decide | omega)
  try have k_1 := ia_n ((cq / 6) + 0) (by first | decide | omega)
  unfold bsN
  try simp only [ia_lt, ia_le, ia_eq, ia_m1, ia_0, ia_1, ne_eq, true_and, and_true, false_and, and_false, or_false, false_or, or_true, true_or, not_true_eq_false, not_false_eq_true] at *
  repeat' split
  all_goals omega
set_option maxRecDepth 20000 in
theorem lf_x_besideE_38 (cq : Nat) (hcq : cq < 36) : -1073741824 ≤ (nI (cq / 6)).toInt := by
  try have k_0 := ia_n (cq / 6) (by first | decide | omega)
  try simp only [ia_lt, ia_le, ia_eq, ia_m1, ia_0, ia_1, ne_eq, true_and, and_true, false_and, and_false, or_false, false_or, or_true, true_or, not_true_eq_false, not_false_eq_true] at *
  all_goals omega
set_option maxRecDepth 20000 in
theorem lf_x_besideE_39 (cq : Nat) (hcq : cq < 36) : (nI (cq / 6)).toInt ≤ 1073741823 := by
  try have k_0 := ia_n (cq / 6) (by first | decide | omega)
  try simp only [ia_lt, ia_le, ia_eq, ia_m1, ia_0, ia_1, ne_eq, true_and, and_true, false_and, and_false, or_false, false_or, or_true, true_or, not_true_eq_false, not_false_eq_true] at *
  all_goals omega
set_option maxRecDepth 20000 in
theorem lf_x_besideE_40   : -1073741824 ≤ (-1 : Int32).toInt := by
  try simp only [ia_lt, ia_le, ia_eq, ia_m1, ia_0, ia_1, ne_eq, true_and, and_true, false_and, and_false, or_false, false_or, or_true, true_or, not_true_eq_false, not_false_eq_true] at *
  all_goals omega
set_option maxRecDepth 20000 in
theorem lf_x_besideE_41   : (-1 : Int32).toInt ≤ 1073741823 := by
  try simp only [ia_lt, ia_le, ia_eq, ia_m1, ia_0, ia_1, ne_eq, true_and, and_true, false_and, and_false, or_false, false_or, or_true, true_or, not_true_eq_false, not_false_eq_true] at *
  all_goals omega
set_option maxRecDepth 20000 in
theorem lf_x_besideE_42 (cq : Nat) (y216 : Int32) (hcq : cq < 36) (f218 : y216.toInt = (nI (cq / 6)).toInt + (-1 : Int32).toInt) : -1 ≤ y216.toInt := by
  have b_y216 := ia_b y216
  try have k_0 := ia_n (cq / 6) (by first | decide | omega)
  try simp only [ia_lt, ia_le, ia_eq, ia_m1, ia_0, ia_1, ne_eq, true_and, and_true, false_and, and_false, or_false, false_or, or_true, true_or, not_true_eq_false, not_false_eq_true] at *
  all_goals omega
set_option maxRecDepth 20000 in
theorem lf_x_besideE_43 (cq : Nat) (y216 : Int32) (hcq : cq < 36) (f218 : y216.toInt = (nI (cq / 6)).toInt + (-1 : Int32).toInt) : y216.toInt ≤ 4 := by
  have b_y216 := ia_b y216
  try have k_0 := ia_n (cq / 6) (by first | decide | omega)
  try simp only [ia_lt, ia_le, ia_eq, ia_m1, ia_0, ia_1, ne_eq, true_and, and_true, false_and, and_false, or_false, false_or, or_true, true_or, not_true_eq_false, not_false_eq_true] at *
  all_goals omega
set_option maxRecDepth 20000 in
theorem lf_x_besideE_44 (knowF : Nat → Int32) (cq : Nat) (y216 : Int32) (ab_now : NB knowF) (hcq : cq < 36) (f218 : y216.toInt = (nI (cq / 6)).toInt + (-1 : Int32).toInt) (b219 : -1 ≤ y216.toInt) (b220 : y216.toInt ≤ 4) (t223 : 0 ≤ (nI ((cq % 6) + 1)).toInt) (t224 : (nI ((cq % 6) + 1)).toInt < (knowF 0).toInt) (t225 : 0 ≤ y216.toInt) (t226 : y216.toInt < (knowF 1).toInt) (t227 : (nI ((cq % 6) + 1)).toInt ≤ 5) (t228 : y216.toInt ≤ 5) : 0 ≤ y216.toInt ∧ y216.toInt < ((5 : Nat) : Int) := by
  have b_y216 := ia_b y216
  try have k_0 := ia_n (cq / 6) (by first | decide | omega)
  try have k_1 := ia_n ((cq % 6) + 1) (by first | decide | omega)
  try simp only [ia_lt, ia_le, ia_eq, ia_m1, ia_0, ia_1, ne_eq, true_and, and_true, false_and, and_false, or_false, false_or, or_true, true_or, not_true_eq_false, not_false_eq_true] at *
  all_goals omega
set_option maxRecDepth 20000 in
theorem lf_x_besideE_45 (knowF : Nat → Int32) (cq : Nat) (sq : Nat) (y216 : Int32) (n231 : Nat) (ab_now : NB knowF) (hcq : cq < 36) (hsq : sq < 4) (c101 : sq = 0) (c203 : sq ≠ 1) (c204 : 2 < sq) (f218 : y216.toInt = (nI (cq / 6)).toInt + (-1 : Int32).toInt) (b219 : -1 ≤ y216.toInt) (b220 : y216.toInt ≤ 4) (t223 : 0 ≤ (nI ((cq % 6) + 1)).toInt) (t224 : (nI ((cq % 6) + 1)).toInt < (knowF 0).toInt) (t225 : 0 ≤ y216.toInt) (t226 : y216.toInt < (knowF 1).toInt) (t227 : (nI ((cq % 6) + 1)).toInt ≤ 5) (t228 : y216.toInt ≤ 5) (h232 : n231 < 5) (e233 : y216 = nI n231) : ((6 * n231) + ((cq % 6) + 1)) < 36 ∧ ((6 * n231) + ((cq % 6) + 1)) = bsN (knowF 0).toInt (knowF 1).toInt cq sq := by
  have b_y216 := ia_b y216
  try have k_0 := ia_n (cq / 6) (by first | decide | omega)
  try have k_1 := ia_n ((cq % 6) + 1) (by first | decide | omega)
  try have k_2 := ia_n n231 (by first | decide | omega)
  unfold bsN
  try simp only [ia_lt, ia_le, ia_eq, ia_m1, ia_0, ia_1, ne_eq, true_and, and_true, false_and, and_false, or_false, false_or, or_true, true_or, not_true_eq_false, not_false_eq_true] at *
  repeat' split
  all_goals omega
set_option maxRecDepth 20000 in
theorem lf_x_besideE_46 (knowF : Nat → Int32) (cq : Nat) (sq : Nat) (y216 : Int32) (ab_now : NB knowF) (hcq : cq < 36) (hsq : sq < 4) (c101 : sq = 0) (c203 : sq ≠ 1) (c204 : 2 < sq) (f218 : y216.toInt = (nI (cq / 6)).toInt + (-1 : Int32).toInt) (b219 : -1 ≤ y216.toInt) (b220 : y216.toInt ≤ 4) (t229 : ¬ (0 ≤ (nI ((cq % 6) + 1)).toInt ∧ (nI ((cq % 6) + 1)).toInt < (knowF 0).toInt ∧ 0 ≤ y216.toInt ∧ y216.toInt < (knowF 1).toInt)) : bsN (knowF 0).toInt (knowF 1).toInt cq sq = 36 := by
  have b_y216 := ia_b y216
  try have k_0 := ia_n (cq / 6) (by first | decide | omega)
  try have k_1 := ia_n ((cq % 6) + 1) (by first | decide | omega)
  unfold bsN
  try simp only [ia_lt, ia_le, ia_eq, ia_m1, ia_0, ia_1, ne_eq, true_and, and_true, false_and, and_false, or_false, false_or, or_true, true_or, not_true_eq_false, not_false_eq_true] at *
  repeat' split
  all_goals omega
set_option maxRecDepth 20000 in
theorem lf_x_besideE_47 (knowF : Nat → Int32) (cq : Nat) (sq : Nat) (ab_now : NB knowF) (hcq : cq < 36) (hsq : sq < 4) (c101 : sq = 0) (c203 : sq = 1) (t237 : 0 ≤ (nI ((cq % 6) + 1)).toInt) (t238 : (nI ((cq % 6) + 1)).toInt < (knowF 0).toInt) (t239 : 0 ≤ (nI ((cq / 6) + 1)).toInt) (t240 : (nI ((cq / 6) + 1)).toInt < (knowF 1).toInt) (t241 : (nI ((cq % 6) + 1)).toInt ≤ 5) (t242 : (nI ((cq / 6) + 1)).toInt ≤ 5) : ((6 * ((cq / 6) + 1)) + ((cq % 6) + 1)) < 36 ∧ ((6 * ((cq / 6) + 1)) + ((cq % 6) + 1)) = bsN (knowF 0).toInt (knowF 1).toInt cq sq := by
  try have k_0 := ia_n ((cq % 6) + 1) (by first | decide | omega)
  try have k_1 := ia_n ((cq / 6) + 1) (by first | decide | omega)
  unfold bsN
  try simp only [ia_lt, ia_le, ia_eq, ia_m1, ia_0, ia_1, ne_eq, true_and, and_true, false_and, and_false, or_false, false_or, or_true, true_or, not_true_eq_false, not_false_eq_true] at *
  repeat' split
  all_goals omega
set_option maxRecDepth 20000 in
theorem lf_x_besideE_48 (knowF : Nat → Int32) (cq : Nat) (sq : Nat) (ab_now : NB knowF) (hcq : cq < 36) (hsq : sq < 4) (c101 : sq = 0) (c203 : sq = 1) (t243 : ¬ (0 ≤ (nI ((cq % 6) + 1)).toInt ∧ (nI ((cq % 6) + 1)).toInt < (knowF 0).toInt ∧ 0 ≤ (nI ((cq / 6) + 1)).toInt ∧ (nI ((cq / 6) + 1)).toInt < (knowF 1).toInt)) : bsN (knowF 0).toInt (knowF 1).toInt cq sq = 36 := by
  try have k_0 := ia_n ((cq % 6) + 1) (by first | decide | omega)
  try have k_1 := ia_n ((cq / 6) + 1) (by first | decide | omega)
  unfold bsN
  try simp only [ia_lt, ia_le, ia_eq, ia_m1, ia_0, ia_1, ne_eq, true_and, and_true, false_and, and_false, or_false, false_or, or_true, true_or, not_true_eq_false, not_false_eq_true] at *
  repeat' split
  all_goals omega
set_option maxHeartbeats 4000000 in
set_option maxRecDepth 100000 in
theorem c_x_besideE (l : Launch) (dC : Nat → ClassId) (dI : Nat → Nat → Nat) (ky : Nat → ClassId) (o : Nat) (kthrown : Int32) (ktape : Nat) (ktaped : Nat) (ksize : Nat) (klimit : Nat) (kto : Nat) (kfrom : Nat) (kkind : Int32) (knumber : Int32) (ksign : Int32) (kfault : Int32) (kplace : Int32) (kword : Int64) (ktold : Int32) (know : Nat) (kread : Nat) (kkept : Nat) (ksnaps : Nat) (kaside : Nat) (kname : Nat) (kreadName : Nat) (kkeptName : Nat) (kisKept : Nat) (konces : Nat) (ksnapMany : Nat) (khasCells : Int32) (kpoured : Nat) (kfar : Nat) (ksides : Nat) (ksideMany : Nat) (kwayDays : Int32) (khasWay : Int32) (klines : Nat) (kmet : Nat) (kmetMany : Nat) (ksunk : Nat) (ktrying : Nat) (ksunkMany : Nat) (ksending : Int32) (kfleets : Int32) (ktext : Nat) (ktexts : Nat) (kseed : Int32) (kline : Nat) (kwritten : Nat) (klineMany : Nat) (khasWritten : Int32) (knode : Nat) (knodes : Nat) (konesMany : Nat) (kwithin : Nat) (ktop : Nat) (knowF : Nat → Int32) (cq : Nat) (sq : Nat) (iv_ko_0 : ktaped ≤ 940) (iv_ko_1 : ksize ≤ 940) (iv_ko_2 : klimit ≤ 900) (iv_ko_3 : kto ≤ ksize) (iv_ko_4 : kfrom ≤ 940) (iv_ko_5 : ksnapMany ≤ 8) (iv_ko_6 : ksideMany ≤ 36) (iv_ko_7 : kmetMany ≤ 3) (iv_ko_8 : ksunkMany ≤ 36) (iv_ko_9 : ktexts ≤ 64) (iv_ko_10 : klineMany ≤ 40) (iv_ko_11 : knodes ≤ 60) (iv_ko_12 : konesMany ≤ 20) (iv_ko_13 : kwithin ≤ 8) (iv_ko_14 : ktop ≤ 59) (ab_now : NB knowF) (hcq : cq < 36) (hsq : sq < 4) : Met l yX12_beside wsX12_beside ({ frames := 2, cells := 0, slots := 0, locals := 44 }) (PcP dC dI ky [.ref o, .int (nI cq), .int (nI sq)] [(o, .inr (12, [.int kthrown, .ref ktape, .int (nI ktaped), .int (nI ksize), .int (nI klimit), .int (nI kto), .int (nI kfrom), .int kkind, .int knumber, .int ksign, .int kfault, .int kplace, .long kword, .int ktold, .ref know, .ref kread, .ref kkept, .ref ksnaps, .ref kaside, .ref kname, .ref kreadName, .ref kkeptName, .ref kisKept, .ref konces, .int (nI ksnapMany), .int khasCells, .ref kpoured, .ref kfar, .ref ksides, .int (nI ksideMany), .int kwayDays, .int khasWay, .ref klines, .ref kmet, .int (nI kmetMany), .ref ksunk, .ref ktrying, .int (nI ksunkMany), .int ksending, .int kfleets, .ref ktext, .int (nI ktexts), .int kseed, .ref kline, .ref kwritten, .int (nI klineMany), .int khasWritten, .ref knode, .int (nI knodes), .int (nI konesMany), .int (nI kwithin), .int (nI ktop)])), (know, .inl (ky 0, 373, .inl knowF))]) (vp_Si (fun r : Int32 => (r = (-1 : Int32) ∧ (bsN (knowF 0).toInt (knowF 1).toInt cq sq = 36)) ∨ (∃ k9 : Nat, (k9 < 36 ∧ k9 = bsN (knowF 0).toInt (knowF 1).toInt cq sq) ∧ r = nI k9))) 0 0 (fun _ => False) := by
  refine Met.ofW (cc := cX12_beside) (maxL := 5) (ret := (some .int)) (by decide) rfl ?_
  intro p e s m args below meth c s₁ B hml hv
  obtain ⟨rfl, hP, hK⟩ := hv
  have hx := B.exec
  have hb := B.bytes
  have hr := B.returns
  have hts := atoms_spec (ws := wsX12_beside) B.pre
  have hown : s.vm.findClass RX12 = some m.cls := findClass_of_methodNamed B.named
  have hlocks := B.notSynchronized
  have hl := lv_entry ([.ref o, .int (nI cq), .int (nI sq)]) (n := 5) (Nat.le_of_ble_eq_true rfl)
  rw [lg_entry_eq]
  generalize (lg_sl ([.ref o, .int (nI cq), .int (nI sq)]) ++ List.replicate (5 - (lg_sl ([.ref o, .int (nI cq), .int (nI sq)])).length) Slot.unset).toArray = ls at hl ⊢
  have hl : lv_has ls 5 [(0, .ref o), (1, .int (nI cq)), (2, .int (nI sq))] := hl
  refine q_name (fun Q hQ => ?_)
  generalize ([.ref o, .int (nI cq), .int (nI sq)] : List Value).toArray = args at hts hQ ⊢
  refine lv_iload_n hx hb dX12_beside_0 rfl (lv_at hl 1 rfl) ?_
  refine lv_bipush (v := nI 6) hx hb dX12_beside_1 (by decide) ?_
  refine lv_irem hx hb dX12_beside_3 (by decide) ?_
  refine r_ti (nI (cq % 6)) (pk_rem (by omega) (by omega) (by omega)) ?_
  refine lv_iload_n hx hb dX12_beside_4 rfl (lv_at hl 2 rfl) ?_
  refine n_if_ne (x := sq) (tgt := 12) hx hb (by omega) dX12_beside_5 (by decide) (fun c101 => ?_) (fun c101 => ?_)
  · refine lv_iload_n hx hb dX12_beside_12 rfl (lv_at hl 2 rfl) ?_
    refine lv_iconst (v := nI 2) hx hb dX12_beside_13 (by decide) ?_
    refine n_icmp_ne (x := sq) (y := 2) (tgt := 21) hx hb (by omega) (by omega) dX12_beside_14 (by decide) (fun c102 => ?_) (fun c102 => ?_)
    · refine lv_iconst (v := nI 0) hx hb dX12_beside_21 (by decide) ?_
      refine lv_iadd hx hb dX12_beside_22 ?_
      refine r_ti (nI ((cq % 6) + 0)) (nI_add _ _) ?_
      refine lv_istore_n (lv' := [(3, .int (nI ((cq % 6) + 0))), (0, .ref o), (1, .int (nI cq)), (2, .int (nI sq))]) hx hb dX12_beside_23 rfl hl (by decide) rfl (fun ls hl => ?_)
      refine lv_iload_n hx hb dX12_beside_24 rfl (lv_at hl 2 rfl) ?_
      refine lv_bipush (v := nI 6) hx hb dX12_beside_25 (by decide) ?_
      refine lv_idiv hx hb dX12_beside_27 (by decide) ?_
      refine r_ti (nI (cq / 6)) (pk_div (by omega) (by omega) (by omega)) ?_
      refine lv_iload_n hx hb dX12_beside_28 rfl (lv_at hl 3 rfl) ?_
      refine lv_iconst (v := nI 1) hx hb dX12_beside_29 (by decide) ?_
      refine n_icmp_ne (x := sq) (y := 1) (tgt := 37) hx hb (by omega) (by omega) dX12_beside_30 (by decide) (fun c103 => ?_) (fun c103 => ?_)
      · refine lv_iload_n hx hb dX12_beside_37 rfl (lv_at hl 3 rfl) ?_
        refine lv_iconst (v := nI 2) hx hb dX12_beside_38 (by decide) ?_
        refine n_icmp_le (x := sq) (y := 2) (tgt := 46) hx hb (by omega) (by omega) dX12_beside_39 (by decide) (fun c104 => ?_) (fun c104 => ?_)
        · refine lv_iconst (v := nI 0) hx hb dX12_beside_46 (by decide) ?_
          refine lv_iadd hx hb dX12_beside_47 ?_
          refine r_ti (nI ((cq / 6) + 0)) (nI_add _ _) ?_
          refine lv_istore (lv' := [(4, .int (nI ((cq / 6) + 0))), (3, .int (nI ((cq % 6) + 0))), (0, .ref o), (1, .int (nI cq)), (2, .int (nI sq))]) hx hb dX12_beside_48 hl (by decide) rfl (fun ls hl => ?_)
          refine lv_aload_n hx hb dX12_beside_50 rfl (lv_at hl 2 rfl) ?_
          refine lv_iload_n hx hb dX12_beside_51 rfl (lv_at hl 1 rfl) ?_
          refine lv_iload hx hb dX12_beside_52 (lv_at hl 0 rfl) ?_
          refine vp_callSi (W.runV (As := [.int (nI ((cq % 6) + 0)), .int (nI ((cq / 6) + 0))]) (rest := []) ⟨hx, hb, hml, hown, hts⟩ (c_x_isCell l dC dI ky o kthrown ktape ktaped ksize klimit kto kfrom kkind knumber ksign kfault kplace kword ktold know kread kkept ksnaps kaside kname kreadName kkeptName kisKept konces ksnapMany khasCells kpoured kfar ksides ksideMany kwayDays khasWay klines kmet kmetMany ksunk ktrying ksunkMany ksending kfleets ktext ktexts kseed kline kwritten klineMany khasWritten knode knodes konesMany kwithin ktop knowF (nI ((cq % 6) + 0)) (nI ((cq / 6) + 0)) iv_ko_0 iv_ko_1 iv_ko_2 iv_ko_3 iv_ko_4 iv_ko_5 iv_ko_6 iv_ko_7 iv_ko_8 iv_ko_9 iv_ko_10 iv_ko_11 iv_ko_12 iv_ko_13 iv_ko_14 ab_now) (cwV 2 hts gX12_beside_X12_isCell rfl rfl rfl (by decide +kernel) ⟨(Nat.le_of_ble_eq_true rfl), (Nat.le_of_ble_eq_true rfl)⟩) (pre_PV hK hP [0, 1] rfl (ci := 12) (q0 := 0) rfl rfl) rfl rfl hl.1 rfl (lv_room (Nat.le_of_ble_eq_true rfl)) dX12_beside_54 ⟨(Nat.le_of_ble_eq_true rfl), (Nat.le_of_ble_eq_true rfl)⟩) (fun r105 p106 => ?_)
          rcases p106 with ⟨rfl, t107, t108, t109, t110, t111, t112⟩ | ⟨rfl, t113⟩
          · refine lv_if_eq (tgt := 70) hx hb dX12_beside_57 (by decide) (fun c114 => absurd c114 (by decide)) (fun c114 => ?_)
            refine lv_bipush (v := nI 6) hx hb dX12_beside_60 (by decide) ?_
            refine lv_iload hx hb dX12_beside_62 (lv_at hl 0 rfl) ?_
            refine lv_imul hx hb dX12_beside_64 ?_
            refine r_ti (nI (6 * ((cq / 6) + 0))) (pk_mul _ _) ?_
            refine lv_iload_n hx hb dX12_beside_65 rfl (lv_at hl 1 rfl) ?_
            refine lv_iadd hx hb dX12_beside_66 ?_
            refine r_ti (nI ((6 * ((cq / 6) + 0)) + ((cq % 6) + 0))) (nI_add _ _) ?_
            refine lv_goto (tgt := 71) hx hb dX12_beside_67 (by decide) ?_
            rw [hQ]
            exact W.iret (v := nI ((6 * ((cq / 6) + 0)) + ((cq % 6) + 0))) hx hb hr (fun t9 ht9 hW9 => ⟨nI ((6 * ((cq / 6) + 0)) + ((cq % 6) + 0)), rfl, (Or.inr ⟨((6 * ((cq / 6) + 0)) + ((cq % 6) + 0)), (lf_x_besideE_1 knowF cq sq ab_now hcq hsq c101 c102 c103 c104 t107 t108 t109 t110 t111 t112), rfl⟩), ht9⟩) (fun _ h => absurd h List.not_mem_nil) dX12_beside_71
          · refine lv_if_eq (tgt := 70) hx hb dX12_beside_57 (by decide) (fun c115 => ?_) (fun c115 => absurd (by decide) c115)
            refine lv_iconst (v := (-1 : Int32)) hx hb dX12_beside_70 (by decide) ?_
            rw [hQ]
            exact W.iret (v := (-1 : Int32)) hx hb hr (fun t9 ht9 hW9 => ⟨(-1 : Int32), rfl, (Or.inl ⟨rfl, (lf_x_besideE_2 knowF cq sq ab_now hcq hsq c101 c102 c103 c104 t113)⟩), ht9⟩) (fun _ h => absurd h List.not_mem_nil) dX12_beside_71
        · refine lv_iconst (v := (-1 : Int32)) hx hb dX12_beside_42 (by decide) ?_
          refine lv_goto (tgt := 47) hx hb dX12_beside_43 (by decide) ?_
          refine lv_iadd hx hb dX12_beside_47 ?_
          refine lv_topi (fun y116 e117 => ?_)
          have f118 : y116.toInt = (nI (cq / 6)).toInt + (-1 : Int32).toInt := by rw [e117]; exact ia_addS _ _ (lf_x_besideE_3 cq hcq) (lf_x_besideE_4 cq hcq) (lf_x_besideE_5) (lf_x_besideE_6)
          have b119 : -1 ≤ y116.toInt := (lf_x_besideE_7 cq y116 hcq f118)
          have b120 : y116.toInt ≤ 4 := (lf_x_besideE_8 cq y116 hcq f118)
          refine lv_istore (lv' := [(4, .int y116), (3, .int (nI ((cq % 6) + 0))), (0, .ref o), (1, .int (nI cq)), (2, .int (nI sq))]) hx hb dX12_beside_48 hl (by decide) rfl (fun ls hl => ?_)
          refine lv_aload_n hx hb dX12_beside_50 rfl (lv_at hl 2 rfl) ?_
          refine lv_iload_n hx hb dX12_beside_51 rfl (lv_at hl 1 rfl) ?_
          refine lv_iload hx hb dX12_beside_52 (lv_at hl 0 rfl) ?_
          refine vp_callSi (W.runV (As := [.int (nI ((cq % 6) + 0)), .int y116]) (rest := []) ⟨hx, hb, hml, hown, hts⟩ (c_x_isCell l dC dI ky o kthrown ktape ktaped ksize klimit kto kfrom kkind knumber ksign kfault kplace kword ktold know kread kkept ksnaps kaside kname kreadName kkeptName kisKept konces ksnapMany khasCells kpoured kfar ksides ksideMany kwayDays khasWay klines kmet kmetMany ksunk ktrying ksunkMany ksending kfleets ktext ktexts kseed kline kwritten klineMany khasWritten knode knodes konesMany kwithin ktop knowF (nI ((cq % 6) + 0)) y116 iv_ko_0 iv_ko_1 iv_ko_2 iv_ko_3 iv_ko_4 iv_ko_5 iv_ko_6 iv_ko_7 iv_ko_8 iv_ko_9 iv_ko_10 iv_ko_11 iv_ko_12 iv_ko_13 iv_ko_14 ab_now) (cwV 2 hts gX12_beside_X12_isCell rfl rfl rfl (by decide +kernel) ⟨(Nat.le_of_ble_eq_true rfl), (Nat.le_of_ble_eq_true rfl)⟩) (pre_PV hK hP [0, 1] rfl (ci := 12) (q0 := 0) rfl rfl) rfl rfl hl.1 rfl (lv_room (Nat.le_of_ble_eq_true rfl)) dX12_beside_54 ⟨(Nat.le_of_ble_eq_true rfl), (Nat.le_of_ble_eq_true rfl)⟩) (fun r121 p122 => ?_)
          rcases p122 with ⟨rfl, t123, t124, t125, t126, t127, t128⟩ | ⟨rfl, t129⟩
          · refine lv_if_eq (tgt := 70) hx hb dX12_beside_57 (by decide) (fun c130 => absurd c130 (by decide)) (fun c130 => ?_)
            refine lv_bipush (v := nI 6) hx hb dX12_beside_60 (by decide) ?_
            refine lv_iload hx hb dX12_beside_62 (lv_at hl 0 rfl) ?_
            obtain ⟨n131, h132, e133⟩ := nat_of y116 5 (by decide) (lf_x_besideE_9 knowF cq y116 ab_now hcq f118 b119 b120 t123 t124 t125 t126 t127 t128)
            rw [e133]
            refine lv_imul hx hb dX12_beside_64 ?_
            refine r_ti (nI (6 * n131)) (pk_mul _ _) ?_
            refine lv_iload_n hx hb dX12_beside_65 rfl (lv_at hl 1 rfl) ?_
            refine lv_iadd hx hb dX12_beside_66 ?_
            refine r_ti (nI ((6 * n131) + ((cq % 6) + 0))) (nI_add _ _) ?_
            refine lv_goto (tgt := 71) hx hb dX12_beside_67 (by decide) ?_
            rw [hQ]
            exact W.iret (v := nI ((6 * n131) + ((cq % 6) + 0))) hx hb hr (fun t9 ht9 hW9 => ⟨nI ((6 * n131) + ((cq % 6) + 0)), rfl, (Or.inr ⟨((6 * n131) + ((cq % 6) + 0)), (lf_x_besideE_10 knowF cq sq y116 n131 ab_now hcq hsq c101 c102 c103 c104 f118 b119 b120 t123 t124 t125 t126 t127 t128 h132 e133), rfl⟩), ht9⟩) (fun _ h => absurd h List.not_mem_nil) dX12_beside_71
          · refine lv_if_eq (tgt := 70) hx hb dX12_beside_57 (by decide) (fun c134 => ?_) (fun c134 => absurd (by decide) c134)
            refine lv_iconst (v := (-1 : Int32)) hx hb dX12_beside_70 (by decide) ?_
            rw [hQ]
            exact W.iret (v := (-1 : Int32)) hx hb hr (fun t9 ht9 hW9 => ⟨(-1 : Int32), rfl, (Or.inl ⟨rfl, (lf_x_besideE_11 knowF cq sq y116 ab_now hcq hsq c101 c102 c103 c104 f118 b119 b120 t129)⟩), ht9⟩) (fun _ h => absurd h List.not_mem_nil) dX12_beside_71
      · refine lv_iconst (v := nI 1) hx hb dX12_beside_33 (by decide) ?_
        refine lv_goto (tgt := 47) hx hb dX12_beside_34 (by decide) ?_
        refine lv_iadd hx hb dX12_beside_47 ?_
        refine r_ti (nI ((cq / 6) + 1)) (nI_add _ _) ?_
        refine lv_istore (lv' := [(4, .int (nI ((cq / 6) + 1))), (3, .int (nI ((cq % 6) + 0))), (0, .ref o), (1, .int (nI cq)), (2, .int (nI sq))]) hx hb dX12_beside_48 hl (by decide) rfl (fun ls hl => ?_)
        refine lv_aload_n hx hb dX12_beside_50 rfl (lv_at hl 2 rfl) ?_
        refine lv_iload_n hx hb dX12_beside_51 rfl (lv_at hl 1 rfl) ?_
        refine lv_iload hx hb dX12_beside_52 (lv_at hl 0 rfl) ?_
        refine vp_callSi (W.runV (As := [.int (nI ((cq % 6) + 0)), .int (nI ((cq / 6) + 1))]) (rest := []) ⟨hx, hb, hml, hown, hts⟩ (c_x_isCell l dC dI ky o kthrown ktape ktaped ksize klimit kto kfrom kkind knumber ksign kfault kplace kword ktold know kread kkept ksnaps kaside kname kreadName kkeptName kisKept konces ksnapMany khasCells kpoured kfar ksides ksideMany kwayDays khasWay klines kmet kmetMany ksunk ktrying ksunkMany ksending kfleets ktext ktexts kseed kline kwritten klineMany khasWritten knode knodes konesMany kwithin ktop knowF (nI ((cq % 6) + 0)) (nI ((cq / 6) + 1)) iv_ko_0 iv_ko_1 iv_ko_2 iv_ko_3 iv_ko_4 iv_ko_5 iv_ko_6 iv_ko_7 iv_ko_8 iv_ko_9 iv_ko_10 iv_ko_11 iv_ko_12 iv_ko_13 iv_ko_14 ab_now) (cwV 2 hts gX12_beside_X12_isCell rfl rfl rfl (by decide +kernel) ⟨(Nat.le_of_ble_eq_true rfl), (Nat.le_of_ble_eq_true rfl)⟩) (pre_PV hK hP [0, 1] rfl (ci := 12) (q0 := 0) rfl rfl) rfl rfl hl.1 rfl (lv_room (Nat.le_of_ble_eq_true rfl)) dX12_beside_54 ⟨(Nat.le_of_ble_eq_true rfl), (Nat.le_of_ble_eq_true rfl)⟩) (fun r135 p136 => ?_)
        rcases p136 with ⟨rfl, t137, t138, t139, t140, t141, t142⟩ | ⟨rfl, t143⟩
        · refine lv_if_eq (tgt := 70) hx hb dX12_beside_57 (by decide) (fun c144 => absurd c144 (by decide)) (fun c144 => ?_)
          refine lv_bipush (v := nI 6) hx hb dX12_beside_60 (by decide) ?_
          refine lv_iload hx hb dX12_beside_62 (lv_at hl 0 rfl) ?_
          refine lv_imul hx hb dX12_beside_64 ?_
          refine r_ti (nI (6 * ((cq / 6) + 1))) (pk_mul _ _) ?_
          refine lv_iload_n hx hb dX12_beside_65 rfl (lv_at hl 1 rfl) ?_
          refine lv_iadd hx hb dX12_beside_66 ?_
          refine r_ti (nI ((6 * ((cq / 6) + 1)) + ((cq % 6) + 0))) (nI_add _ _) ?_
          refine lv_goto (tgt := 71) hx hb dX12_beside_67 (by decide) ?_
          rw [hQ]
          exact W.iret (v := nI ((6 * ((cq / 6) + 1)) + ((cq % 6) + 0))) hx hb hr (fun t9 ht9 hW9 => ⟨nI ((6 * ((cq / 6) + 1)) + ((cq % 6) + 0)), rfl, (Or.inr ⟨((6 * ((cq / 6) + 1)) + ((cq % 6) + 0)), (lf_x_besideE_12 knowF cq sq ab_now hcq hsq c101 c102 c103 t137 t138 t139 t140 t141 t142), rfl⟩), ht9⟩) (fun _ h => absurd h List.not_mem_nil) dX12_beside_71
        · refine lv_if_eq (tgt := 70) hx hb dX12_beside_57 (by decide) (fun c145 => ?_) (fun c145 => absurd (by decide) c145)
          refine lv_iconst (v := (-1 : Int32)) hx hb dX12_beside_70 (by decide) ?_
          rw [hQ]
          exact W.iret (v := (-1 : Int32)) hx hb hr (fun t9 ht9 hW9 => ⟨(-1 : Int32), rfl, (Or.inl ⟨rfl, (lf_x_besideE_13 knowF cq sq ab_now hcq hsq c101 c102 c103 t143)⟩), ht9⟩) (fun _ h => absurd h List.not_mem_nil) dX12_beside_71
    · refine lv_iconst (v := (-1 : Int32)) hx hb dX12_beside_17 (by decide) ?_
      refine lv_goto (tgt := 22) hx hb dX12_beside_18 (by decide) ?_
      refine lv_iadd hx hb dX12_beside_22 ?_
      refine lv_topi (fun y146 e147 => ?_)
      have f148 : y146.toInt = (nI (cq % 6)).toInt + (-1 : Int32).toInt := by rw [e147]; exact ia_addS _ _ (lf_x_besideE_14 cq hcq) (lf_x_besideE_15 cq hcq) (lf_x_besideE_16) (lf_x_besideE_17)
      have b149 : -1 ≤ y146.toInt := (lf_x_besideE_18 cq y146 hcq f148)
      have b150 : y146.toInt ≤ 4 := (lf_x_besideE_19 cq y146 hcq f148)
      refine lv_istore_n (lv' := [(3, .int y146), (0, .ref o), (1, .int (nI cq)), (2, .int (nI sq))]) hx hb dX12_beside_23 rfl hl (by decide) rfl (fun ls hl => ?_)
      refine lv_iload_n hx hb dX12_beside_24 rfl (lv_at hl 2 rfl) ?_
      refine lv_bipush (v := nI 6) hx hb dX12_beside_25 (by decide) ?_
      refine lv_idiv hx hb dX12_beside_27 (by decide) ?_
      refine r_ti (nI (cq / 6)) (pk_div (by omega) (by omega) (by omega)) ?_
      refine lv_iload_n hx hb dX12_beside_28 rfl (lv_at hl 3 rfl) ?_
      refine lv_iconst (v := nI 1) hx hb dX12_beside_29 (by decide) ?_
      refine n_icmp_ne (x := sq) (y := 1) (tgt := 37) hx hb (by omega) (by omega) dX12_beside_30 (by decide) (fun c151 => ?_) (fun c151 => ?_)
      · refine lv_iload_n hx hb dX12_beside_37 rfl (lv_at hl 3 rfl) ?_
        refine lv_iconst (v := nI 2) hx hb dX12_beside_38 (by decide) ?_
        refine n_icmp_le (x := sq) (y := 2) (tgt := 46) hx hb (by omega) (by omega) dX12_beside_39 (by decide) (fun c152 => ?_) (fun c152 => ?_)
        · refine lv_iconst (v := nI 0) hx hb dX12_beside_46 (by decide) ?_
          refine lv_iadd hx hb dX12_beside_47 ?_
          refine r_ti (nI ((cq / 6) + 0)) (nI_add _ _) ?_
          refine lv_istore (lv' := [(4, .int (nI ((cq / 6) + 0))), (3, .int y146), (0, .ref o), (1, .int (nI cq)), (2, .int (nI sq))]) hx hb dX12_beside_48 hl (by decide) rfl (fun ls hl => ?_)
          refine lv_aload_n hx hb dX12_beside_50 rfl (lv_at hl 2 rfl) ?_
          refine lv_iload_n hx hb dX12_beside_51 rfl (lv_at hl 1 rfl) ?_
          refine lv_iload hx hb dX12_beside_52 (lv_at hl 0 rfl) ?_
          refine vp_callSi (W.runV (As := [.int y146, .int (nI ((cq / 6) + 0))]) (rest := []) ⟨hx, hb, hml, hown, hts⟩ (c_x_isCell l dC dI ky o kthrown ktape ktaped ksize klimit kto kfrom kkind knumber ksign kfault kplace kword ktold know kread kkept ksnaps kaside kname kreadName kkeptName kisKept konces ksnapMany khasCells kpoured kfar ksides ksideMany kwayDays khasWay klines kmet kmetMany ksunk ktrying ksunkMany ksending kfleets ktext ktexts kseed kline kwritten klineMany khasWritten knode knodes konesMany kwithin ktop knowF y146 (nI ((cq / 6) + 0)) iv_ko_0 iv_ko_1 iv_ko_2 iv_ko_3 iv_ko_4 iv_ko_5 iv_ko_6 iv_ko_7 iv_ko_8 iv_ko_9 iv_ko_10 iv_ko_11 iv_ko_12 iv_ko_13 iv_ko_14 ab_now) (cwV 2 hts gX12_beside_X12_isCell rfl rfl rfl (by decide +kernel) ⟨(Nat.le_of_ble_eq_true rfl), (Nat.le_of_ble_eq_true rfl)⟩) (pre_PV hK hP [0, 1] rfl (ci := 12) (q0 := 0) rfl rfl) rfl rfl hl.1 rfl (lv_room (Nat.le_of_ble_eq_true rfl)) dX12_beside_54 ⟨(Nat.le_of_ble_eq_true rfl), (Nat.le_of_ble_eq_true rfl)⟩) (fun r153 p154 => ?_)
          rcases p154 with ⟨rfl, t155, t156, t157, t158, t159, t160⟩ | ⟨rfl, t161⟩
          · refine lv_if_eq (tgt := 70) hx hb dX12_beside_57 (by decide) (fun c162 => absurd c162 (by decide)) (fun c162 => ?_)
            refine lv_bipush (v := nI 6) hx hb dX12_beside_60 (by decide) ?_
            refine lv_iload hx hb dX12_beside_62 (lv_at hl 0 rfl) ?_
            refine lv_imul hx hb dX12_beside_64 ?_
            refine r_ti (nI (6 * ((cq / 6) + 0))) (pk_mul _ _) ?_
            refine lv_iload_n hx hb dX12_beside_65 rfl (lv_at hl 1 rfl) ?_
            obtain ⟨n163, h164, e165⟩ := nat_of y146 5 (by decide) (lf_x_besideE_20 knowF cq y146 ab_now hcq f148 b149 b150 t155 t156 t157 t158 t159 t160)
            rw [e165]
            refine lv_iadd hx hb dX12_beside_66 ?_
            refine r_ti (nI ((6 * ((cq / 6) + 0)) + n163)) (nI_add _ _) ?_
            refine lv_goto (tgt := 71) hx hb dX12_beside_67 (by decide) ?_
            rw [hQ]
            exact W.iret (v := nI ((6 * ((cq / 6) + 0)) + n163)) hx hb hr (fun t9 ht9 hW9 => ⟨nI ((6 * ((cq / 6) + 0)) + n163), rfl, (Or.inr ⟨((6 * ((cq / 6) + 0)) + n163), (lf_x_besideE_21 knowF cq sq y146 n163 ab_now hcq hsq c101 c102 f148 b149 b150 c151 c152 t155 t156 t157 t158 t159 t160 h164 e165), rfl⟩), ht9⟩) (fun _ h => absurd h List.not_mem_nil) dX12_beside_71
          · refine lv_if_eq (tgt := 70) hx hb dX12_beside_57 (by decide) (fun c166 => ?_) (fun c166 => absurd (by decide) c166)
            refine lv_iconst (v := (-1 : Int32)) hx hb dX12_beside_70 (by decide) ?_
            rw [hQ]
            exact W.iret (v := (-1 : Int32)) hx hb hr (fun t9 ht9 hW9 => ⟨(-1 : Int32), rfl, (Or.inl ⟨rfl, (lf_x_besideE_22 knowF cq sq y146 ab_now hcq hsq c101 c102 f148 b149 b150 c151 c152 t161)⟩), ht9⟩) (fun _ h => absurd h List.not_mem_nil) dX12_beside_71
        · refine lv_iconst (v := (-1 : Int32)) hx hb dX12_beside_42 (by decide) ?_
          refine lv_goto (tgt := 47) hx hb dX12_beside_43 (by decide) ?_
          refine lv_iadd hx hb dX12_beside_47 ?_
          refine lv_topi (fun y167 e168 => ?_)
          have f169 : y167.toInt = (nI (cq / 6)).toInt + (-1 : Int32).toInt := by rw [e168]; exact ia_addS _ _ (lf_x_besideE_23 cq y146 hcq f148 b149 b150) (lf_x_besideE_24 cq y146 hcq f148 b149 b150) (lf_x_besideE_25) (lf_x_besideE_26)
          have b170 : -1 ≤ y167.toInt := (lf_x_besideE_27 cq y146 y167 hcq f148 b149 b150 f169)
          have b171 : y167.toInt ≤ 4 := (lf_x_besideE_28 cq y146 y167 hcq f148 b149 b150 f169)
          refine lv_istore (lv' := [(4, .int y167), (3, .int y146), (0, .ref o), (1, .int (nI cq)), (2, .int (nI sq))]) hx hb dX12_beside_48 hl (by decide) rfl (fun ls hl => ?_)
          refine lv_aload_n hx hb dX12_beside_50 rfl (lv_at hl 2 rfl) ?_
          refine lv_iload_n hx hb dX12_beside_51 rfl (lv_at hl 1 rfl) ?_
          refine lv_iload hx hb dX12_beside_52 (lv_at hl 0 rfl) ?_
          refine vp_callSi (W.runV (As := [.int y146, .int y167]) (rest := []) ⟨hx, hb, hml, hown, hts⟩ (c_x_isCell l dC dI ky o kthrown ktape ktaped ksize klimit kto kfrom kkind knumber ksign kfault kplace kword ktold know kread kkept ksnaps kaside kname kreadName kkeptName kisKept konces ksnapMany khasCells kpoured kfar ksides ksideMany kwayDays khasWay klines kmet kmetMany ksunk ktrying ksunkMany ksending kfleets ktext ktexts kseed kline kwritten klineMany khasWritten knode knodes konesMany kwithin ktop knowF y146 y167 iv_ko_0 iv_ko_1 iv_ko_2 iv_ko_3 iv_ko_4 iv_ko_5 iv_ko_6 iv_ko_7 iv_ko_8 iv_ko_9 iv_ko_10 iv_ko_11 iv_ko_12 iv_ko_13 iv_ko_14 ab_now) (cwV 2 hts gX12_beside_X12_isCell rfl rfl rfl (by decide +kernel) ⟨(Nat.le_of_ble_eq_true rfl), (Nat.le_of_ble_eq_true rfl)⟩) (pre_PV hK hP [0, 1] rfl (ci := 12) (q0 := 0) rfl rfl) rfl rfl hl.1 rfl (lv_room (Nat.le_of_ble_eq_true rfl)) dX12_beside_54 ⟨(Nat.le_of_ble_eq_true rfl), (Nat.le_of_ble_eq_true rfl)⟩) (fun r172 p173 => ?_)
          rcases p173 with ⟨rfl, t174, t175, t176, t177, t178, t179⟩ | ⟨rfl, t180⟩
          · refine lv_if_eq (tgt := 70) hx hb dX12_beside_57 (by decide) (fun c181 => absurd c181 (by decide)) (fun c181 => ?_)
            refine lv_bipush (v := nI 6) hx hb dX12_beside_60 (by decide) ?_
            refine lv_iload hx hb dX12_beside_62 (lv_at hl 0 rfl) ?_
            obtain ⟨n182, h183, e184⟩ := nat_of y167 5 (by decide) (lf_x_besideE_29 knowF cq y146 y167 ab_now hcq f148 b149 b150 f169 b170 b171 t174 t175 t176 t177 t178 t179)
            rw [e184]
            refine lv_imul hx hb dX12_beside_64 ?_
            refine r_ti (nI (6 * n182)) (pk_mul _ _) ?_
            refine lv_iload_n hx hb dX12_beside_65 rfl (lv_at hl 1 rfl) ?_
            obtain ⟨n185, h186, e187⟩ := nat_of y146 5 (by decide) (lf_x_besideE_30 knowF cq y146 y167 n182 ab_now hcq f148 b149 b150 f169 b170 b171 t174 t175 t176 t177 t178 t179 h183 e184)
            rw [e187]
            refine lv_iadd hx hb dX12_beside_66 ?_
            refine r_ti (nI ((6 * n182) + n185)) (nI_add _ _) ?_
            refine lv_goto (tgt := 71) hx hb dX12_beside_67 (by decide) ?_
            rw [hQ]
            exact W.iret (v := nI ((6 * n182) + n185)) hx hb hr (fun t9 ht9 hW9 => ⟨nI ((6 * n182) + n185), rfl, (Or.inr ⟨((6 * n182) + n185), (lf_x_besideE_31 knowF cq sq y146 y167 n182 n185 ab_now hcq hsq c101 c102 f148 b149 b150 c151 c152 f169 b170 b171 t174 t175 t176 t177 t178 t179 h183 e184 h186 e187), rfl⟩), ht9⟩) (fun _ h => absurd h List.not_mem_nil) dX12_beside_71
          · refine lv_if_eq (tgt := 70) hx hb dX12_beside_57 (by decide) (fun c188 => ?_) (fun c188 => absurd (by decide) c188)
            refine lv_iconst (v := (-1 : Int32)) hx hb dX12_beside_70 (by decide) ?_
            rw [hQ]
            exact W.iret (v := (-1 : Int32)) hx hb hr (fun t9 ht9 hW9 => ⟨(-1 : Int32), rfl, (Or.inl ⟨rfl, (lf_x_besideE_32 knowF cq sq y146 y167 ab_now hcq hsq c101 c102 f148 b149 b150 c151 c152 f169 b170 b171 t180)⟩), ht9⟩) (fun _ h => absurd h List.not_mem_nil) dX12_beside_71
      · refine lv_iconst (v := nI 1) hx hb dX12_beside_33 (by decide) ?_
        refine lv_goto (tgt := 47) hx hb dX12_beside_34 (by decide) ?_
        refine lv_iadd hx hb dX12_beside_47 ?_
        refine r_ti (nI ((cq / 6) + 1)) (nI_add _ _) ?_
        refine lv_istore (lv' := [(4, .int (nI ((cq / 6) + 1))), (3, .int y146), (0, .ref o), (1, .int (nI cq)), (2, .int (nI sq))]) hx hb dX12_beside_48 hl (by decide) rfl (fun ls hl => ?_)
        refine lv_aload_n hx hb dX12_beside_50 rfl (lv_at hl 2 rfl) ?_
        refine lv_iload_n hx hb dX12_beside_51 rfl (lv_at hl 1 rfl) ?_
        refine lv_iload hx hb dX12_beside_52 (lv_at hl 0 rfl) ?_
        refine vp_callSi (W.runV (As := [.int y146, .int (nI ((cq / 6) + 1))]) (rest := []) ⟨hx, hb, hml, hown, hts⟩ (c_x_isCell l dC dI ky o kthrown ktape ktaped ksize klimit kto kfrom kkind knumber ksign kfault kplace kword ktold know kread kkept ksnaps kaside kname kreadName kkeptName kisKept konces ksnapMany khasCells kpoured kfar ksides ksideMany kwayDays khasWay klines kmet kmetMany ksunk ktrying ksunkMany ksending kfleets ktext ktexts kseed kline kwritten klineMany khasWritten knode knodes konesMany kwithin ktop knowF y146 (nI ((cq / 6) + 1)) iv_ko_0 iv_ko_1 iv_ko_2 iv_ko_3 iv_ko_4 iv_ko_5 iv_ko_6 iv_ko_7 iv_ko_8 iv_ko_9 iv_ko_10 iv_ko_11 iv_ko_12 iv_ko_13 iv_ko_14 ab_now) (cwV 2 hts gX12_beside_X12_isCell rfl rfl rfl (by decide +kernel) ⟨(Nat.le_of_ble_eq_true rfl), (Nat.le_of_ble_eq_true rfl)⟩) (pre_PV hK hP [0, 1] rfl (ci := 12) (q0 := 0) rfl rfl) rfl rfl hl.1 rfl (lv_room (Nat.le_of_ble_eq_true rfl)) dX12_beside_54 ⟨(Nat.le_of_ble_eq_true rfl), (Nat.le_of_ble_eq_true rfl)⟩) (fun r189 p190 => ?_)
        rcases p190 with ⟨rfl, t191, t192, t193, t194, t195, t196⟩ | ⟨rfl, t197⟩
        · refine lv_if_eq (tgt := 70) hx hb dX12_beside_57 (by decide) (fun c198 => absurd c198 (by decide)) (fun c198 => ?_)
          refine lv_bipush (v := nI 6) hx hb dX12_beside_60 (by decide) ?_
          refine lv_iload hx hb dX12_beside_62 (lv_at hl 0 rfl) ?_
          refine lv_imul hx hb dX12_beside_64 ?_
          refine r_ti (nI (6 * ((cq / 6) + 1))) (pk_mul _ _) ?_
          refine lv_iload_n hx hb dX12_beside_65 rfl (lv_at hl 1 rfl) ?_
          obtain ⟨n199, h200, e201⟩ := nat_of y146 5 (by decide) (lf_x_besideE_33 knowF cq y146 ab_now hcq f148 b149 b150 t191 t192 t193 t194 t195 t196)
          rw [e201]
          refine lv_iadd hx hb dX12_beside_66 ?_
          refine r_ti (nI ((6 * ((cq / 6) + 1)) + n199)) (nI_add _ _) ?_
          refine lv_goto (tgt := 71) hx hb dX12_beside_67 (by decide) ?_
          rw [hQ]
          exact W.iret (v := nI ((6 * ((cq / 6) + 1)) + n199)) hx hb hr (fun t9 ht9 hW9 => ⟨nI ((6 * ((cq / 6) + 1)) + n199), rfl, (Or.inr ⟨((6 * ((cq / 6) + 1)) + n199), (lf_x_besideE_34 knowF cq sq y146 n199 ab_now hcq hsq c101 c102 f148 b149 b150 c151 t191 t192 t193 t194 t195 t196 h200 e201), rfl⟩), ht9⟩) (fun _ h => absurd h List.not_mem_nil) dX12_beside_71
        · refine lv_if_eq (tgt := 70) hx hb dX12_beside_57 (by decide) (fun c202 => ?_) (fun c202 => absurd (by decide) c202)
          refine lv_iconst (v := (-1 : Int32)) hx hb dX12_beside_70 (by decide) ?_
          rw [hQ]
          exact W.iret (v := (-1 : Int32)) hx hb hr (fun t9 ht9 hW9 => ⟨(-1 : Int32), rfl, (Or.inl ⟨rfl, (lf_x_besideE_35 knowF cq sq y146 ab_now hcq hsq c101 c102 f148 b149 b150 c151 t197)⟩), ht9⟩) (fun _ h => absurd h List.not_mem_nil) dX12_beside_71
  · refine lv_iconst (v := nI 1) hx hb dX12_beside_8 (by decide) ?_
    refine lv_goto (tgt := 22) hx hb dX12_beside_9 (by decide) ?_
    refine lv_iadd hx hb dX12_beside_22 ?_
    refine r_ti (nI ((cq % 6) + 1)) (nI_add _ _) ?_
    refine lv_istore_n (lv' := [(3, .int (nI ((cq % 6) + 1))), (0, .ref o), (1, .int (nI cq)), (2, .int (nI sq))]) hx hb dX12_beside_23 rfl hl (by decide) rfl (fun ls hl => ?_)
    refine lv_iload_n hx hb dX12_beside_24 rfl (lv_at hl 2 rfl) ?_
    refine lv_bipush (v := nI 6) hx hb dX12_beside_25 (by decide) ?_
    refine lv_idiv hx hb dX12_beside_27 (by decide) ?_
    refine r_ti (nI (cq / 6)) (pk_div (by omega) (by omega) (by omega)) ?_
    refine lv_iload_n hx hb dX12_beside_28 rfl (lv_at hl 3 rfl) ?_
    refine lv_iconst (v := nI 1) hx hb dX12_beside_29 (by decide) ?_
    refine n_icmp_ne (x := sq) (y := 1) (tgt := 37) hx hb (by omega) (by omega) dX12_beside_30 (by decide) (fun c203 => ?_) (fun c203 => ?_)
    · refine lv_iload_n hx hb dX12_beside_37 rfl (lv_at hl 3 rfl) ?_
      refine lv_iconst (v := nI 2) hx hb dX12_beside_38 (by decide) ?_
      refine n_icmp_le (x := sq) (y := 2) (tgt := 46) hx hb (by omega) (by omega) dX12_beside_39 (by decide) (fun c204 => ?_) (fun c204 => ?_)
      · refine lv_iconst (v := nI 0) hx hb dX12_beside_46 (by decide) ?_
        refine lv_iadd hx hb dX12_beside_47 ?_
        refine r_ti (nI ((cq / 6) + 0)) (nI_add _ _) ?_
        refine lv_istore (lv' := [(4, .int (nI ((cq / 6) + 0))), (3, .int (nI ((cq % 6) + 1))), (0, .ref o), (1, .int (nI cq)), (2, .int (nI sq))]) hx hb dX12_beside_48 hl (by decide) rfl (fun ls hl => ?_)
        refine lv_aload_n hx hb dX12_beside_50 rfl (lv_at hl 2 rfl) ?_
        refine lv_iload_n hx hb dX12_beside_51 rfl (lv_at hl 1 rfl) ?_
        refine lv_iload hx hb dX12_beside_52 (lv_at hl 0 rfl) ?_
        refine vp_callSi (W.runV (As := [.int (nI ((cq % 6) + 1)), .int (nI ((cq / 6) + 0))]) (rest := []) ⟨hx, hb, hml, hown, hts⟩ (c_x_isCell l dC dI ky o kthrown ktape ktaped ksize klimit kto kfrom kkind knumber ksign kfault kplace kword ktold know kread kkept ksnaps kaside kname kreadName kkeptName kisKept konces ksnapMany khasCells kpoured kfar ksides ksideMany kwayDays khasWay klines kmet kmetMany ksunk ktrying ksunkMany ksending kfleets ktext ktexts kseed kline kwritten klineMany khasWritten knode knodes konesMany kwithin ktop knowF (nI ((cq % 6) + 1)) (nI ((cq / 6) + 0)) iv_ko_0 iv_ko_1 iv_ko_2 iv_ko_3 iv_ko_4 iv_ko_5 iv_ko_6 iv_ko_7 iv_ko_8 iv_ko_9 iv_ko_10 iv_ko_11 iv_ko_12 iv_ko_13 iv_ko_14 ab_now) (cwV 2 hts gX12_beside_X12_isCell rfl rfl rfl (by decide +kernel) ⟨(Nat.le_of_ble_eq_true rfl), (Nat.le_of_ble_eq_true rfl)⟩) (pre_PV hK hP [0, 1] rfl (ci := 12) (q0 := 0) rfl rfl) rfl rfl hl.1 rfl (lv_room (Nat.le_of_ble_eq_true rfl)) dX12_beside_54 ⟨(Nat.le_of_ble_eq_true rfl), (Nat.le_of_ble_eq_true rfl)⟩) (fun r205 p206 => ?_)
        rcases p206 with ⟨rfl, t207, t208, t209, t210, t211, t212⟩ | ⟨rfl, t213⟩
        · refine lv_if_eq (tgt := 70) hx hb dX12_beside_57 (by decide) (fun c214 => absurd c214 (by decide)) (fun c214 => ?_)
          refine lv_bipush (v := nI 6) hx hb dX12_beside_60 (by decide) ?_
          refine lv_iload hx hb dX12_beside_62 (lv_at hl 0 rfl) ?_
          refine lv_imul hx hb dX12_beside_64 ?_
          refine r_ti (nI (6 * ((cq / 6) + 0))) (pk_mul _ _) ?_
          refine lv_iload_n hx hb dX12_beside_65 rfl (lv_at hl 1 rfl) ?_
          refine lv_iadd hx hb dX12_beside_66 ?_
          refine r_ti (nI ((6 * ((cq / 6) + 0)) + ((cq % 6) + 1))) (nI_add _ _) ?_
          refine lv_goto (tgt := 71) hx hb dX12_beside_67 (by decide) ?_
          rw [hQ]
          exact W.iret (v := nI ((6 * ((cq / 6) + 0)) + ((cq % 6) + 1))) hx hb hr (fun t9 ht9 hW9 => ⟨nI ((6 * ((cq / 6) + 0)) + ((cq % 6) + 1)), rfl, (Or.inr ⟨((6 * ((cq / 6) + 0)) + ((cq % 6) + 1)), (lf_x_besideE_36 knowF cq sq ab_now hcq hsq c101 c203 c204 t207 t208 t209 t210 t211 t212), rfl⟩), ht9⟩) (fun _ h => absurd h List.not_mem_nil) dX12_beside_71
        · refine lv_if_eq (tgt := 70) hx hb dX12_beside_57 (by decide) (fun c215 => ?_) (fun c215 => absurd (by decide) c215)
          refine lv_iconst (v := (-1 : Int32)) hx hb dX12_beside_70 (by decide) ?_
          rw [hQ]
          exact W.iret (v := (-1 : Int32)) hx hb hr (fun t9 ht9 hW9 => ⟨(-1 : Int32), rfl, (Or.inl ⟨rfl, (lf_x_besideE_37 knowF cq sq ab_now hcq hsq c101 c203 c204 t213)⟩), ht9⟩) (fun _ h => absurd h List.not_mem_nil) dX12_beside_71
      · refine lv_iconst (v := (-1 : Int32)) hx hb dX12_beside_42 (by decide) ?_
        refine lv_goto (tgt := 47) hx hb dX12_beside_43 (by decide) ?_
        refine lv_iadd hx hb dX12_beside_47 ?_
        refine lv_topi (fun y216 e217 => ?_)
        have f218 : y216.toInt = (nI (cq / 6)).toInt + (-1 : Int32).toInt := by rw [e217]; exact ia_addS _ _ (lf_x_besideE_38 cq hcq) (lf_x_besideE_39 cq hcq) (lf_x_besideE_40) (lf_x_besideE_41)
        have b219 : -1 ≤ y216.toInt := (lf_x_besideE_42 cq y216 hcq f218)
        have b220 : y216.toInt ≤ 4 := (lf_x_besideE_43 cq y216 hcq f218)
        refine lv_istore (lv' := [(4, .int y216), (3, .int (nI ((cq % 6) + 1))), (0, .ref o), (1, .int (nI cq)), (2, .int (nI sq))]) hx hb dX12_beside_48 hl (by decide) rfl (fun ls hl => ?_)
        refine lv_aload_n hx hb dX12_beside_50 rfl (lv_at hl 2 rfl) ?_
        refine lv_iload_n hx hb dX12_beside_51 rfl (lv_at hl 1 rfl) ?_
        refine lv_iload hx hb dX12_beside_52 (lv_at hl 0 rfl) ?_
        refine vp_callSi (W.runV (As := [.int (nI ((cq % 6) + 1)), .int y216]) (rest := []) ⟨hx, hb, hml, hown, hts⟩ (c_x_isCell l dC dI ky o kthrown ktape ktaped ksize klimit kto kfrom kkind knumber ksign kfault kplace kword ktold know kread kkept ksnaps kaside kname kreadName kkeptName kisKept konces ksnapMany khasCells kpoured kfar ksides ksideMany kwayDays khasWay klines kmet kmetMany ksunk ktrying ksunkMany ksending kfleets ktext ktexts kseed kline kwritten klineMany khasWritten knode knodes konesMany kwithin ktop knowF (nI ((cq % 6) + 1)) y216 iv_ko_0 iv_ko_1 iv_ko_2 iv_ko_3 iv_ko_4 iv_ko_5 iv_ko_6 iv_ko_7 iv_ko_8 iv_ko_9 iv_ko_10 iv_ko_11 iv_ko_12 iv_ko_13 iv_ko_14 ab_now) (cwV 2 hts gX12_beside_X12_isCell rfl rfl rfl (by decide +kernel) ⟨(Nat.le_of_ble_eq_true rfl), (Nat.le_of_ble_eq_true rfl)⟩) (pre_PV hK hP [0, 1] rfl (ci := 12) (q0 := 0) rfl rfl) rfl rfl hl.1 rfl (lv_room (Nat.le_of_ble_eq_true rfl)) dX12_beside_54 ⟨(Nat.le_of_ble_eq_true rfl), (Nat.le_of_ble_eq_true rfl)⟩) (fun r221 p222 => ?_)
        rcases p222 with ⟨rfl, t223, t224, t225, t226, t227, t228⟩ | ⟨rfl, t229⟩
        · refine lv_if_eq (tgt := 70) hx hb dX12_beside_57 (by decide) (fun c230 => absurd c230 (by decide)) (fun c230 => ?_)
          refine lv_bipush (v := nI 6) hx hb dX12_beside_60 (by decide) ?_
          refine lv_iload hx hb dX12_beside_62 (lv_at hl 0 rfl) ?_
          obtain ⟨n231, h232, e233⟩ := nat_of y216 5 (by decide) (lf_x_besideE_44 knowF cq y216 ab_now hcq f218 b219 b220 t223 t224 t225 t226 t227 t228)
          rw [e233]
          refine lv_imul hx hb dX12_beside_64 ?_
          refine r_ti (nI (6 * n231)) (pk_mul _ _) ?_
          refine lv_iload_n hx hb dX12_beside_65 rfl (lv_at hl 1 rfl) ?_
          refine lv_iadd hx hb dX12_beside_66 ?_
          refine r_ti (nI ((6 * n231) + ((cq % 6) + 1))) (nI_add _ _) ?_
          refine lv_goto (tgt := 71) hx hb dX12_beside_67 (by decide) ?_
          rw [hQ]
          exact W.iret (v := nI ((6 * n231) + ((cq % 6) + 1))) hx hb hr (fun t9 ht9 hW9 => ⟨nI ((6 * n231) + ((cq % 6) + 1)), rfl, (Or.inr ⟨((6 * n231) + ((cq % 6) + 1)), (lf_x_besideE_45 knowF cq sq y216 n231 ab_now hcq hsq c101 c203 c204 f218 b219 b220 t223 t224 t225 t226 t227 t228 h232 e233), rfl⟩), ht9⟩) (fun _ h => absurd h List.not_mem_nil) dX12_beside_71
        · refine lv_if_eq (tgt := 70) hx hb dX12_beside_57 (by decide) (fun c234 => ?_) (fun c234 => absurd (by decide) c234)
          refine lv_iconst (v := (-1 : Int32)) hx hb dX12_beside_70 (by decide) ?_
          rw [hQ]
          exact W.iret (v := (-1 : Int32)) hx hb hr (fun t9 ht9 hW9 => ⟨(-1 : Int32), rfl, (Or.inl ⟨rfl, (lf_x_besideE_46 knowF cq sq y216 ab_now hcq hsq c101 c203 c204 f218 b219 b220 t229)⟩), ht9⟩) (fun _ h => absurd h List.not_mem_nil) dX12_beside_71
    · refine lv_iconst (v := nI 1) hx hb dX12_beside_33 (by decide) ?_
      refine lv_goto (tgt := 47) hx hb dX12_beside_34 (by decide) ?_
      refine lv_iadd hx hb dX12_beside_47 ?_
      refine r_ti (nI ((cq / 6) + 1)) (nI_add _ _) ?_
      refine lv_istore (lv' := [(4, .int (nI ((cq / 6) + 1))), (3, .int (nI ((cq % 6) + 1))), (0, .ref o), (1, .int (nI cq)), (2, .int (nI sq))]) hx hb dX12_beside_48 hl (by decide) rfl (fun ls hl => ?_)
      refine lv_aload_n hx hb dX12_beside_50 rfl (lv_at hl 2 rfl) ?_
      refine lv_iload_n hx hb dX12_beside_51 rfl (lv_at hl 1 rfl) ?_
      refine lv_iload hx hb dX12_beside_52 (lv_at hl 0 rfl) ?_
      refine vp_callSi (W.runV (As := [.int (nI ((cq % 6) + 1)), .int (nI ((cq / 6) + 1))]) (rest := []) ⟨hx, hb, hml, hown, hts⟩ (c_x_isCell l dC dI ky o kthrown ktape ktaped ksize klimit kto kfrom kkind knumber ksign kfault kplace kword ktold know kread kkept ksnaps kaside kname kreadName kkeptName kisKept konces ksnapMany khasCells kpoured kfar ksides ksideMany kwayDays khasWay klines kmet kmetMany ksunk ktrying ksunkMany ksending kfleets ktext ktexts kseed kline kwritten klineMany khasWritten knode knodes konesMany kwithin ktop knowF (nI ((cq % 6) + 1)) (nI ((cq / 6) + 1)) iv_ko_0 iv_ko_1 iv_ko_2 iv_ko_3 iv_ko_4 iv_ko_5 iv_ko_6 iv_ko_7 iv_ko_8 iv_ko_9 iv_ko_10 iv_ko_11 iv_ko_12 iv_ko_13 iv_ko_14 ab_now) (cwV 2 hts gX12_beside_X12_isCell rfl rfl rfl (by decide +kernel) ⟨(Nat.le_of_ble_eq_true rfl), (Nat.le_of_ble_eq_true rfl)⟩) (pre_PV hK hP [0, 1] rfl (ci := 12) (q0 := 0) rfl rfl) rfl rfl hl.1 rfl (lv_room (Nat.le_of_ble_eq_true rfl)) dX12_beside_54 ⟨(Nat.le_of_ble_eq_true rfl), (Nat.le_of_ble_eq_true rfl)⟩) (fun r235 p236 => ?_)
      rcases p236 with ⟨rfl, t237, t238, t239, t240, t241, t242⟩ | ⟨rfl, t243⟩
      · refine lv_if_eq (tgt := 70) hx hb dX12_beside_57 (by decide) (fun c244 => absurd c244 (by decide)) (fun c244 => ?_)
        refine lv_bipush (v := nI 6) hx hb dX12_beside_60 (by decide) ?_
        refine lv_iload hx hb dX12_beside_62 (lv_at hl 0 rfl) ?_
        refine lv_imul hx hb dX12_beside_64 ?_
        refine r_ti (nI (6 * ((cq / 6) + 1))) (pk_mul _ _) ?_
        refine lv_iload_n hx hb dX12_beside_65 rfl (lv_at hl 1 rfl) ?_
        refine lv_iadd hx hb dX12_beside_66 ?_
        refine r_ti (nI ((6 * ((cq / 6) + 1)) + ((cq % 6) + 1))) (nI_add _ _) ?_
        refine lv_goto (tgt := 71) hx hb dX12_beside_67 (by decide) ?_
        rw [hQ]
        exact W.iret (v := nI ((6 * ((cq / 6) + 1)) + ((cq % 6) + 1))) hx hb hr (fun t9 ht9 hW9 => ⟨nI ((6 * ((cq / 6) + 1)) + ((cq % 6) + 1)), rfl, (Or.inr ⟨((6 * ((cq / 6) + 1)) + ((cq % 6) + 1)), (lf_x_besideE_47 knowF cq sq ab_now hcq hsq c101 c203 t237 t238 t239 t240 t241 t242), rfl⟩), ht9⟩) (fun _ h => absurd h List.not_mem_nil) dX12_beside_71
      · refine lv_if_eq (tgt := 70) hx hb dX12_beside_57 (by decide) (fun c245 => ?_) (fun c245 => absurd (by decide) c245)
        refine lv_iconst (v := (-1 : Int32)) hx hb dX12_beside_70 (by decide) ?_
        rw [hQ]
        exact W.iret (v := (-1 : Int32)) hx hb hr (fun t9 ht9 hW9 => ⟨(-1 : Int32), rfl, (Or.inl ⟨rfl, (lf_x_besideE_48 knowF cq sq ab_now hcq hsq c101 c203 t243)⟩), ht9⟩) (fun _ h => absurd h List.not_mem_nil) dX12_beside_71
set_option maxRecDepth 20000 in
theorem lf_x_isInSeaE_1 (knowF : Nat → Int32) (cq : Nat) (y1 : Int32) (ab_now : NB knowF) (hcq : cq < 36) (e2 : y1 = knowF 0) (b3 : 2 ≤ y1.toInt) (b4 : y1.toInt ≤ 6) (c5 : y1 ≤ nI (cq % 6)) : ((nI 0) = nI 1 ∧ (inS knowF cq)) ∨ ((nI 0) = nI 0 ∧ (¬ inS knowF cq)) := by
  unfold inS
  have b_y1 := ia_b y1
  try have k_0 := ia_n (cq % 6) (by first | decide | omega)
  try have k_1 := ia_n 0 (by first | decide | omega)
  try have k_2 := ia_n 1 (by first | decide | omega)
  try simp only [ia_lt, ia_le, ia_eq, ia_m1, ia_0, ia_1, ne_eq, true_and, and_true, false_and, and_false, or_false, false_or, or_true, true_or, not_true_eq_false, not_false_eq_true] at *
  all_goals omega
set_option maxRecDepth 20000 in
theorem lf_x_isInSeaE_2 (knowF : Nat → Int32) (cq : Nat) (y1 : Int32) (y6 : Int32) (ab_now : NB knowF) (hcq : cq < 36) (e2 : y1 = knowF 0) (b3 : 2 ≤ y1.toInt) (b4 : y1.toInt ≤ 6) (c5 : ¬ y1 ≤ nI (cq % 6)) (e7 : y6 = knowF 1) (b8 : 2 ≤ y6.toInt) (b9 : y6.toInt ≤ 6) (c10 : y6 ≤ nI (cq / 6)) : ((nI 0) = nI 1 ∧ (inS knowF cq)) ∨ ((nI 0) = nI 0 ∧ (¬ inS knowF cq)) := by
  unfold inS
  have b_y1 := ia_b y1
  have b_y6 := ia_b y6
  try have k_0 := ia_n (cq % 6) (by first | decide | omega)
  try have k_1 := ia_n (cq / 6) (by first | decide | omega)
  try have k_2 := ia_n 0 (by first | decide | omega)
  try have k_3 := ia_n 1 (by first | decide | omega)
  try simp only [ia_lt, ia_le, ia_eq, ia_m1, ia_0, ia_1, ne_eq, true_and, and_true, false_and, and_false, or_false, false_or, or_true, true_or, not_true_eq_false, not_false_eq_true] at *
  all_goals omega
set_option maxRecDepth 20000 in
theorem lf_x_isInSeaE_3 (knowF : Nat → Int32) (cq : Nat) (y1 : Int32) (y6 : Int32) (ab_now : NB knowF) (hcq : cq < 36) (e2 : y1 = knowF 0) (b3 : 2 ≤ y1.toInt) (b4 : y1.toInt ≤ 6) (c5 : ¬ y1 ≤ nI (cq % 6)) (e7 : y6 = knowF 1) (b8 : 2 ≤ y6.toInt) (b9 : y6.toInt ≤ 6) (c10 : ¬ y6 ≤ nI (cq / 6)) : ((nI 1) = nI 1 ∧ (inS knowF cq)) ∨ ((nI 1) = nI 0 ∧ (¬ inS knowF cq)) := by
  unfold inS
  have b_y1 := ia_b y1
  have b_y6 := ia_b y6
  try have k_0 := ia_n (cq % 6) (by first | decide | omega)
  try have k_1 := ia_n (cq / 6) (by first | decide | omega)
  try have k_2 := ia_n 1 (by first | decide | omega)
  try have k_3 := ia_n 0 (by first | decide | omega)
  try simp only [ia_lt, ia_le, ia_eq, ia_m1, ia_0, ia_1, ne_eq, true_and, and_true, false_and, and_false, or_false, false_or, or_true, true_or, not_true_eq_false, not_false_eq_true] at *
  all_goals omega
set_option maxHeartbeats 4000000 in
set_option maxRecDepth 100000 in
theorem c_x_isInSeaE (l : Launch) (dC : Nat → ClassId) (dI : Nat → Nat → Nat) (ky : Nat → ClassId) (o : Nat) (kthrown : Int32) (ktape : Nat) (ktaped : Nat) (ksize : Nat) (klimit : Nat) (kto : Nat) (kfrom : Nat) (kkind : Int32) (knumber : Int32) (ksign : Int32) (kfault : Int32) (kplace : Int32) (kword : Int64) (ktold : Int32) (know : Nat) (kread : Nat) (kkept : Nat) (ksnaps : Nat) (kaside : Nat) (kname : Nat) (kreadName : Nat) (kkeptName : Nat) (kisKept : Nat) (konces : Nat) (ksnapMany : Nat) (khasCells : Int32) (kpoured : Nat) (kfar : Nat) (ksides : Nat) (ksideMany : Nat) (kwayDays : Int32) (khasWay : Int32) (klines : Nat) (kmet : Nat) (kmetMany : Nat) (ksunk : Nat) (ktrying : Nat) (ksunkMany : Nat) (ksending : Int32) (kfleets : Int32) (ktext : Nat) (ktexts : Nat) (kseed : Int32) (kline : Nat) (kwritten : Nat) (klineMany : Nat) (khasWritten : Int32) (knode : Nat) (knodes : Nat) (konesMany : Nat) (kwithin : Nat) (ktop : Nat) (knowF : Nat → Int32) (cq : Nat) (iv_ko_0 : ktaped ≤ 940) (iv_ko_1 : ksize ≤ 940) (iv_ko_2 : klimit ≤ 900) (iv_ko_3 : kto ≤ ksize) (iv_ko_4 : kfrom ≤ 940) (iv_ko_5 : ksnapMany ≤ 8) (iv_ko_6 : ksideMany ≤ 36) (iv_ko_7 : kmetMany ≤ 3) (iv_ko_8 : ksunkMany ≤ 36) (iv_ko_9 : ktexts ≤ 64) (iv_ko_10 : klineMany ≤ 40) (iv_ko_11 : knodes ≤ 60) (iv_ko_12 : konesMany ≤ 20) (iv_ko_13 : kwithin ≤ 8) (iv_ko_14 : ktop ≤ 59) (ab_now : NB knowF) (hcq : cq < 36) : Met l yX12_isInSea wsX12_isInSea ({ frames := 0, cells := 0, slots := 0, locals := 0 }) (PcP dC dI ky [.ref o, .int (nI cq)] [(o, .inr (12, [.int kthrown, .ref ktape, .int (nI ktaped), .int (nI ksize), .int (nI klimit), .int (nI kto), .int (nI kfrom), .int kkind, .int knumber, .int ksign, .int kfault, .int kplace, .long kword, .int ktold, .ref know, .ref kread, .ref kkept, .ref ksnaps, .ref kaside, .ref kname, .ref kreadName, .ref kkeptName, .ref kisKept, .ref konces, .int (nI ksnapMany), .int khasCells, .ref kpoured, .ref kfar, .ref ksides, .int (nI ksideMany), .int kwayDays, .int khasWay, .ref klines, .ref kmet, .int (nI kmetMany), .ref ksunk, .ref ktrying, .int (nI ksunkMany), .int ksending, .int kfleets, .ref ktext, .int (nI ktexts), .int kseed, .ref kline, .ref kwritten, .int (nI klineMany), .int khasWritten, .ref knode, .int (nI knodes), .int (nI konesMany), .int (nI kwithin), .int (nI ktop)])), (know, .inl (ky 0, 373, .inl knowF))]) (vp_Si (fun r : Int32 => (r = nI 1 ∧ (inS knowF cq)) ∨ (r = nI 0 ∧ (¬ inS knowF cq)))) 0 0 (fun _ => False) := by
  refine Met.ofW (cc := cX12_isInSea) (maxL := 2) (ret := (some .boolean)) (by decide) rfl ?_
  intro p e s m args below meth c s₁ B hml hv
  obtain ⟨rfl, hP, hK⟩ := hv
  have hx := B.exec
  have hb := B.bytes
  have hr := B.returns
  have hts := atoms_spec (ws := wsX12_isInSea) B.pre
  have hown : s.vm.findClass RX12 = some m.cls := findClass_of_methodNamed B.named
  have hlocks := B.notSynchronized
  have hin12 : ∀ w ∈ u_ws RX12 TX12 52, w ∈ wsX12_isInSea := by decide +kernel
  have hl := lv_entry ([.ref o, .int (nI cq)]) (n := 2) (Nat.le_of_ble_eq_true rfl)
  rw [lg_entry_eq]
  generalize (lg_sl ([.ref o, .int (nI cq)]) ++ List.replicate (2 - (lg_sl ([.ref o, .int (nI cq)])).length) Slot.unset).toArray = ls at hl ⊢
  have hl : lv_has ls 2 [(0, .ref o), (1, .int (nI cq))] := hl
  refine q_name (fun Q hQ => ?_)
  generalize ([.ref o, .int (nI cq)] : List Value).toArray = args at hts hQ ⊢
  refine lv_iload_n hx hb dX12_isInSea_0 rfl (lv_at hl 1 rfl) ?_
  refine lv_bipush (v := nI 6) hx hb dX12_isInSea_1 (by decide) ?_
  refine lv_irem hx hb dX12_isInSea_3 (by decide) ?_
  refine r_ti (nI (cq % 6)) (pk_rem (by omega) (by omega) (by omega)) ?_
  refine lv_aload_n hx hb dX12_isInSea_4 rfl (lv_at hl 0 rfl) ?_
  refine va_get (D := (dC, dI)) (ci := 12) (v := .ref know) (C := RX12) (T := TX12) (N := 52) hx hb hts hin12 hown hK hP 0 rfl rfl 14 (by decide) (hts (.fieldLink RX12 98 "PorridgeSeaModel" "now" "[I") (List.mem_of_getElem? (i := 1) rfl)) (fun _ h9 => h9) rfl dX12_isInSea_5 ?_
  refine lv_iconst (v := nI 0) hx hb dX12_isInSea_8 (by decide) ?_
  obtain ⟨y1, e2⟩ : ∃ z9, z9 = knowF 0 := ⟨_, rfl⟩
  refine r_iald hx hb hK hP 1 rfl 0 (by decide) (by decide) y1 e2.symm dX12_isInSea_9 ?_
  obtain ⟨b3, b4⟩ : (2 : Int) ≤ y1.toInt ∧ y1.toInt ≤ 6 := by rw [e2]; exact ld_NB_0 ab_now 0 (by decide) (by decide)
  refine lv_icmp_ge (tgt := 30) hx hb dX12_isInSea_10 (by decide) (fun c5 => ?_) (fun c5 => ?_)
  · refine lv_iconst (v := nI 0) hx hb dX12_isInSea_30 (by decide) ?_
    rw [hQ]
    exact W.zret (v := nI 0) hx hb hr (by decide) (fun t9 ht9 hW9 => ⟨nI 0, rfl, (lf_x_isInSeaE_1 knowF cq y1 ab_now hcq e2 b3 b4 c5), ht9⟩) (fun _ h => absurd h List.not_mem_nil) dX12_isInSea_31
  · refine lv_iload_n hx hb dX12_isInSea_13 rfl (lv_at hl 1 rfl) ?_
    refine lv_bipush (v := nI 6) hx hb dX12_isInSea_14 (by decide) ?_
    refine lv_idiv hx hb dX12_isInSea_16 (by decide) ?_
    refine r_ti (nI (cq / 6)) (pk_div (by omega) (by omega) (by omega)) ?_
    refine lv_aload_n hx hb dX12_isInSea_17 rfl (lv_at hl 0 rfl) ?_
    refine va_get (D := (dC, dI)) (ci := 12) (v := .ref know) (C := RX12) (T := TX12) (N := 52) hx hb hts hin12 hown hK hP 0 rfl rfl 14 (by decide) (hts (.fieldLink RX12 98 "PorridgeSeaModel" "now" "[I") (List.mem_of_getElem? (i := 1) rfl)) (fun _ h9 => h9) rfl dX12_isInSea_18 ?_
    refine lv_iconst (v := nI 1) hx hb dX12_isInSea_21 (by decide) ?_
    obtain ⟨y6, e7⟩ : ∃ z9, z9 = knowF 1 := ⟨_, rfl⟩
    refine r_iald hx hb hK hP 1 rfl 1 (by decide) (by decide) y6 e7.symm dX12_isInSea_22 ?_
    obtain ⟨b8, b9⟩ : (2 : Int) ≤ y6.toInt ∧ y6.toInt ≤ 6 := by rw [e7]; exact ld_NB_1 ab_now 1 (by decide) (by decide)
    refine lv_icmp_ge (tgt := 30) hx hb dX12_isInSea_23 (by decide) (fun c10 => ?_) (fun c10 => ?_)
    · refine lv_iconst (v := nI 0) hx hb dX12_isInSea_30 (by decide) ?_
      rw [hQ]
      exact W.zret (v := nI 0) hx hb hr (by decide) (fun t9 ht9 hW9 => ⟨nI 0, rfl, (lf_x_isInSeaE_2 knowF cq y1 y6 ab_now hcq e2 b3 b4 c5 e7 b8 b9 c10), ht9⟩) (fun _ h => absurd h List.not_mem_nil) dX12_isInSea_31
    · refine lv_iconst (v := nI 1) hx hb dX12_isInSea_26 (by decide) ?_
      refine lv_goto (tgt := 31) hx hb dX12_isInSea_27 (by decide) ?_
      rw [hQ]
      exact W.zret (v := nI 1) hx hb hr (by decide) (fun t9 ht9 hW9 => ⟨nI 1, rfl, (lf_x_isInSeaE_3 knowF cq y1 y6 ab_now hcq e2 b3 b4 c5 e7 b8 b9 c10), ht9⟩) (fun _ h => absurd h List.not_mem_nil) dX12_isInSea_31
set_option maxRecDepth 20000 in
theorem lf_x_farBy_1 (knowF : Nat → Int32) (kfarF : Nat → Int32) (bq : Nat) (cq : Nat) (sq : Nat) (ab_now : NB knowF) (ab_far : FB36 kfarF) (hbq : bq < 6) (hcq : cq < 36) (hsq : sq < 4) (t7 : bsN (knowF 0).toInt (knowF 1).toInt cq sq = 36) : (nI 100000).toInt = fbL knowF kfarF bq cq sq ∧ 0 ≤ (nI 100000).toInt ∧ (nI 100000).toInt ≤ 100256 := by
  refine ⟨?_, ?_⟩
  · try have k_0 := ia_n 100000 (by first | decide | omega)
    unfold fbL
    rw [t7]
    unfold fbD
    rw [if_pos rfl]
    try simp only [ia_lt, ia_le, ia_eq, ia_m1, ia_0, ia_1, ne_eq, true_and, and_true, false_and, and_false, or_false, false_or, or_true, true_or, not_true_eq_false, not_false_eq_true] at *
    repeat' split
    all_goals omega
  · try have k_0 := ia_n 100000 (by first | decide | omega)
    try simp only [ia_lt, ia_le, ia_eq, ia_m1, ia_0, ia_1, ne_eq, true_and, and_true, false_and, and_false, or_false, false_or, or_true, true_or, not_true_eq_false, not_false_eq_true] at *
    all_goals omega
set_option maxRecDepth 20000 in
theorem lf_x_farBy_2 (knowF : Nat → Int32) (kfarF : Nat → Int32) (bq : Nat) (cq : Nat) (sq : Nat) (k3 : Nat) (ab_now : NB knowF) (ab_far : FB36 kfarF) (hbq : bq < 6) (hcq : cq < 36) (hsq : sq < 4) (h5 : k3 < 36) (h6 : k3 = bsN (knowF 0).toInt (knowF 1).toInt cq sq) (c9 : nI k3 = (-1 : Int32)) : (nI 100000).toInt = fbL knowF kfarF bq cq sq ∧ 0 ≤ (nI 100000).toInt ∧ (nI 100000).toInt ≤ 100256 := by
  refine ⟨?_, ?_⟩
  · try have k_0 := ia_n k3 (by first | decide | omega)
    try have k_1 := ia_n 100000 (by first | decide | omega)
    unfold fbL
    rw [← h6]
    unfold fbD
    rw [if_neg (by omega)]
    try simp only [ia_lt, ia_le, ia_eq, ia_m1, ia_0, ia_1, ne_eq, true_and, and_true, false_and, and_false, or_false, false_or, or_true, true_or, not_true_eq_false, not_false_eq_true] at *
    repeat' split
    all_goals omega
  · try have k_0 := ia_n k3 (by first | decide | omega)
    try have k_1 := ia_n 100000 (by first | decide | omega)
    try simp only [ia_lt, ia_le, ia_eq, ia_m1, ia_0, ia_1, ne_eq, true_and, and_true, false_and, and_false, or_false, false_or, or_true, true_or, not_true_eq_false, not_false_eq_true] at *
    all_goals omega
set_option maxRecDepth 20000 in
theorem lf_x_farBy_3 (knowF : Nat → Int32) (bq : Nat) (cq : Nat) (sq : Nat) (k3 : Nat) (k12 : Nat) (y17 : Int32) (ab_now : NB knowF) (hbq : bq < 6) (hcq : cq < 36) (hsq : sq < 4) (h5 : k3 < 36) (h6 : k3 = bsN (knowF 0).toInt (knowF 1).toInt cq sq) (c9 : ¬ nI k3 = (-1 : Int32)) (h14 : 1 ≤ k12) (h15 : k12 ≤ 4) (h16 : (k12 : Int) = coL knowF k3) (e18 : y17 = knowF (61 + bq)) : (61 + bq) < 373 := by
  have b_y17 := ia_b y17
  try have k_0 := ia_n k3 (by first | decide | omega)
  try simp only [ia_lt, ia_le, ia_eq, ia_m1, ia_0, ia_1, ne_eq, true_and, and_true, false_and, and_false, or_false, false_or, or_true, true_or, not_true_eq_false, not_false_eq_true] at *
  all_goals omega
set_option maxRecDepth 20000 in
theorem lf_x_farBy_4 (knowF : Nat → Int32) (kfarF : Nat → Int32) (bq : Nat) (cq : Nat) (sq : Nat) (k3 : Nat) (k12 : Nat) (y17 : Int32) (ab_now : NB knowF) (ab_far : FB36 kfarF) (hbq : bq < 6) (hcq : cq < 36) (hsq : sq < 4) (h5 : k3 < 36) (h6 : k3 = bsN (knowF 0).toInt (knowF 1).toInt cq sq) (c9 : ¬ nI k3 = (-1 : Int32)) (h14 : 1 ≤ k12) (h15 : k12 ≤ 4) (h16 : (k12 : Int) = coL knowF k3) (e18 : y17 = knowF (61 + bq)) (c19 : y17 < nI k12) : (nI 100000).toInt = fbL knowF kfarF bq cq sq ∧ 0 ≤ (nI 100000).toInt ∧ (nI 100000).toInt ≤ 100256 := by
  refine ⟨?_, ?_⟩
  · have b_y17 := ia_b y17
    try have k_0 := ia_n k3 (by first | decide | omega)
    try have k_1 := ia_n k12 (by first | decide | omega)
    try have k_2 := ia_n 100000 (by first | decide | omega)
    unfold fbL
    rw [← h6]
    unfold fbD
    rw [if_neg (by omega)]
    try simp only [ia_lt, ia_le, ia_eq, ia_m1, ia_0, ia_1, ne_eq, true_and, and_true, false_and, and_false, or_false, false_or, or_true, true_or, not_true_eq_false, not_false_eq_true] at *
    repeat' split
    all_goals omega
  · have b_y17 := ia_b y17
    try have k_0 := ia_n k3 (by first | decide | omega)
    try have k_1 := ia_n k12 (by first | decide | omega)
    try have k_2 := ia_n 100000 (by first | decide | omega)
    try simp only [ia_lt, ia_le, ia_eq, ia_m1, ia_0, ia_1, ne_eq, true_and, and_true, false_and, and_false, or_false, false_or, or_true, true_or, not_true_eq_false, not_false_eq_true] at *
    all_goals omega
set_option maxRecDepth 20000 in
theorem lf_x_farBy_5 (knowF : Nat → Int32) (kfarF : Nat → Int32) (bq : Nat) (cq : Nat) (sq : Nat) (k3 : Nat) (k12 : Nat) (y17 : Int32) (y20 : Int32) (ab_now : NB knowF) (ab_far : FB36 kfarF) (hbq : bq < 6) (hcq : cq < 36) (hsq : sq < 4) (h5 : k3 < 36) (h6 : k3 = bsN (knowF 0).toInt (knowF 1).toInt cq sq) (c9 : ¬ nI k3 = (-1 : Int32)) (h14 : 1 ≤ k12) (h15 : k12 ≤ 4) (h16 : (k12 : Int) = coL knowF k3) (e18 : y17 = knowF (61 + bq)) (c19 : ¬ y17 < nI k12) (e21 : y20 = kfarF k3) : k3 < 36 := by
  have b_y17 := ia_b y17
  have b_y20 := ia_b y20
  try have k_0 := ia_n k3 (by first | decide | omega)
  try have k_1 := ia_n k12 (by first | decide | omega)
  try simp only [ia_lt, ia_le, ia_eq, ia_m1, ia_0, ia_1, ne_eq, true_and, and_true, false_and, and_false, or_false, false_or, or_true, true_or, not_true_eq_false, not_false_eq_true] at *
  all_goals omega
set_option maxRecDepth 20000 in
theorem lf_x_farBy_6 (knowF : Nat → Int32) (kfarF : Nat → Int32) (bq : Nat) (cq : Nat) (sq : Nat) (k3 : Nat) (k12 : Nat) (y17 : Int32) (y20 : Int32) (ab_now : NB knowF) (ab_far : FB36 kfarF) (hbq : bq < 6) (hcq : cq < 36) (hsq : sq < 4) (h5 : k3 < 36) (h6 : k3 = bsN (knowF 0).toInt (knowF 1).toInt cq sq) (c9 : ¬ nI k3 = (-1 : Int32)) (h14 : 1 ≤ k12) (h15 : k12 ≤ 4) (h16 : (k12 : Int) = coL knowF k3) (e18 : y17 = knowF (61 + bq)) (c19 : ¬ y17 < nI k12) (e21 : y20 = kfarF k3) : 0 ≤ k3 := by
  have b_y17 := ia_b y17
  have b_y20 := ia_b y20
  try have k_0 := ia_n k3 (by first | decide | omega)
  try have k_1 := ia_n k12 (by first | decide | omega)
  try simp only [ia_lt, ia_le, ia_eq, ia_m1, ia_0, ia_1, ne_eq, true_and, and_true, false_and, and_false, or_false, false_or, or_true, true_or, not_true_eq_false, not_false_eq_true] at *
  all_goals omega
set_option maxRecDepth 20000 in
theorem lf_x_farBy_7 (knowF : Nat → Int32) (kfarF : Nat → Int32) (bq : Nat) (cq : Nat) (sq : Nat) (k3 : Nat) (k12 : Nat) (y17 : Int32) (y20 : Int32) (ab_now : NB knowF) (ab_far : FB36 kfarF) (hbq : bq < 6) (hcq : cq < 36) (hsq : sq < 4) (h5 : k3 < 36) (h6 : k3 = bsN (knowF 0).toInt (knowF 1).toInt cq sq) (c9 : ¬ nI k3 = (-1 : Int32)) (h14 : 1 ≤ k12) (h15 : k12 ≤ 4) (h16 : (k12 : Int) = coL knowF k3) (e18 : y17 = knowF (61 + bq)) (c19 : ¬ y17 < nI k12) (e21 : y20 = kfarF k3) : k3 < 36 := by
  have b_y17 := ia_b y17
  have b_y20 := ia_b y20
  try have k_0 := ia_n k3 (by first | decide | omega)
  try have k_1 := ia_n k12 (by first | decide | omega)
  try simp only [ia_lt, ia_le, ia_eq, ia_m1, ia_0, ia_1, ne_eq, true_and, and_true, false_and, and_false, or_false, false_or, or_true, true_or, not_true_eq_false, not_false_eq_true] at *
  all_goals omega
set_option maxRecDepth 20000 in
theorem lf_x_farBy_8 (knowF : Nat → Int32) (kfarF : Nat → Int32) (bq : Nat) (cq : Nat) (sq : Nat) (k3 : Nat) (k12 : Nat) (y17 : Int32) (y20 : Int32) (y25 : Int32) (ab_now : NB knowF) (ab_far : FB36 kfarF) (hbq : bq < 6) (hcq : cq < 36) (hsq : sq < 4) (h5 : k3 < 36) (h6 : k3 = bsN (knowF 0).toInt (knowF 1).toInt cq sq) (c9 : ¬ nI k3 = (-1 : Int32)) (h14 : 1 ≤ k12) (h15 : k12 ≤ 4) (h16 : (k12 : Int) = coL knowF k3) (e18 : y17 = knowF (61 + bq)) (c19 : ¬ y17 < nI k12) (e21 : y20 = kfarF k3) (b22 : 0 ≤ y20.toInt) (b23 : y20.toInt ≤ 100000) (c24 : y20 < nI 100000) (e26 : y25 = kfarF k3) : k3 < 36 := by
  have b_y17 := ia_b y17
  have b_y20 := ia_b y20
  have b_y25 := ia_b y25
  try have k_0 := ia_n k3 (by first | decide | omega)
  try have k_1 := ia_n k12 (by first | decide | omega)
  try have k_2 := ia_n 100000 (by first | decide | omega)
  try simp only [ia_lt, ia_le, ia_eq, ia_m1, ia_0, ia_1, ne_eq, true_and, and_true, false_and, and_false, or_false, false_or, or_true, true_or, not_true_eq_false, not_false_eq_true] at *
  all_goals omega
set_option maxRecDepth 20000 in
theorem lf_x_farBy_9 (knowF : Nat → Int32) (kfarF : Nat → Int32) (bq : Nat) (cq : Nat) (sq : Nat) (k3 : Nat) (k12 : Nat) (y17 : Int32) (y20 : Int32) (y25 : Int32) (ab_now : NB knowF) (ab_far : FB36 kfarF) (hbq : bq < 6) (hcq : cq < 36) (hsq : sq < 4) (h5 : k3 < 36) (h6 : k3 = bsN (knowF 0).toInt (knowF 1).toInt cq sq) (c9 : ¬ nI k3 = (-1 : Int32)) (h14 : 1 ≤ k12) (h15 : k12 ≤ 4) (h16 : (k12 : Int) = coL knowF k3) (e18 : y17 = knowF (61 + bq)) (c19 : ¬ y17 < nI k12) (e21 : y20 = kfarF k3) (b22 : 0 ≤ y20.toInt) (b23 : y20.toInt ≤ 100000) (c24 : y20 < nI 100000) (e26 : y25 = kfarF k3) : 0 ≤ k3 := by
  have b_y17 := ia_b y17
  have b_y20 := ia_b y20
  have b_y25 := ia_b y25
  try have k_0 := ia_n k3 (by first | decide | omega)
  try have k_1 := ia_n k12 (by first | decide | omega)
  try have k_2 := ia_n 100000 (by first | decide | omega)
  try simp only [ia_lt, ia_le, ia_eq, ia_m1, ia_0, ia_1, ne_eq, true_and, and_true, false_and, and_false, or_false, false_or, or_true, true_or, not_true_eq_false, not_false_eq_true] at *
  all_goals omega
set_option maxRecDepth 20000 in
theorem lf_x_farBy_10 (knowF : Nat → Int32) (kfarF : Nat → Int32) (bq : Nat) (cq : Nat) (sq : Nat) (k3 : Nat) (k12 : Nat) (y17 : Int32) (y20 : Int32) (y25 : Int32) (ab_now : NB knowF) (ab_far : FB36 kfarF) (hbq : bq < 6) (hcq : cq < 36) (hsq : sq < 4) (h5 : k3 < 36) (h6 : k3 = bsN (knowF 0).toInt (knowF 1).toInt cq sq) (c9 : ¬ nI k3 = (-1 : Int32)) (h14 : 1 ≤ k12) (h15 : k12 ≤ 4) (h16 : (k12 : Int) = coL knowF k3) (e18 : y17 = knowF (61 + bq)) (c19 : ¬ y17 < nI k12) (e21 : y20 = kfarF k3) (b22 : 0 ≤ y20.toInt) (b23 : y20.toInt ≤ 100000) (c24 : y20 < nI 100000) (e26 : y25 = kfarF k3) : k3 < 36 := by
  have b_y17 := ia_b y17
  have b_y20 := ia_b y20
  have b_y25 := ia_b y25
  try have k_0 := ia_n k3 (by first | decide | omega)
  try have k_1 := ia_n k12 (by first | decide | omega)
  try have k_2 := ia_n 100000 (by first | decide | omega)
  try simp only [ia_lt, ia_le, ia_eq, ia_m1, ia_0, ia_1, ne_eq, true_and, and_true, false_and, and_false, or_false, false_or, or_true, true_or, not_true_eq_false, not_false_eq_true] at *
  all_goals omega
set_option maxRecDepth 20000 in
theorem lf_x_farBy_11 (knowF : Nat → Int32) (kfarF : Nat → Int32) (bq : Nat) (cq : Nat) (sq : Nat) (k3 : Nat) (k12 : Nat) (y17 : Int32) (y20 : Int32) (y25 : Int32) (k31 : Nat) (ab_now : NB knowF) (ab_far : FB36 kfarF) (hbq : bq < 6) (hcq : cq < 36) (hsq : sq < 4) (h5 : k3 < 36) (h6 : k3 = bsN (knowF 0).toInt (knowF 1).toInt cq sq) (c9 : ¬ nI k3 = (-1 : Int32)) (h14 : 1 ≤ k12) (h15 : k12 ≤ 4) (h16 : (k12 : Int) = coL knowF k3) (e18 : y17 = knowF (61 + bq)) (c19 : ¬ y17 < nI k12) (e21 : y20 = kfarF k3) (b22 : 0 ≤ y20.toInt) (b23 : y20.toInt ≤ 100000) (c24 : y20 < nI 100000) (e26 : y25 = kfarF k3) (b27 : 0 ≤ y25.toInt) (b28 : y25.toInt ≤ 100000) (h33 : 1 ≤ k31) (h34 : k31 ≤ 4) (h35 : (k31 : Int) = coL knowF k3) : -1073741824 ≤ y25.toInt := by
  have b_y17 := ia_b y17
  have b_y20 := ia_b y20
  have b_y25 := ia_b y25
  try have k_0 := ia_n k3 (by first | decide | omega)
  try have k_1 := ia_n k12 (by first | decide | omega)
  try have k_2 := ia_n 100000 (by first | decide | omega)
  try simp only [ia_lt, ia_le, ia_eq, ia_m1, ia_0, ia_1, ne_eq, true_and, and_true, false_and, and_false, or_false, false_or, or_true, true_or, not_true_eq_false, not_false_eq_true] at *
  all_goals omega
set_option maxRecDepth 20000 in
theorem lf_x_farBy_12 (knowF : Nat → Int32) (kfarF : Nat → Int32) (bq : Nat) (cq : Nat) (sq : Nat) (k3 : Nat) (k12 : Nat) (y17 : Int32) (y20 : Int32) (y25 : Int32) (k31 : Nat) (ab_now : NB knowF) (ab_far : FB36 kfarF) (hbq : bq < 6) (hcq : cq < 36) (hsq : sq < 4) (h5 : k3 < 36) (h6 : k3 = bsN (knowF 0).toInt (knowF 1).toInt cq sq) (c9 : ¬ nI k3 = (-1 : Int32)) (h14 : 1 ≤ k12) (h15 : k12 ≤ 4) (h16 : (k12 : Int) = coL knowF k3) (e18 : y17 = knowF (61 + bq)) (c19 : ¬ y17 < nI k12) (e21 : y20 = kfarF k3) (b22 : 0 ≤ y20.toInt) (b23 : y20.toInt ≤ 100000) (c24 : y20 < nI 100000) (e26 : y25 = kfarF k3) (b27 : 0 ≤ y25.toInt) (b28 : y25.toInt ≤ 100000) (h33 : 1 ≤ k31) (h34 : k31 ≤ 4) (h35 : (k31 : Int) = coL knowF k3) : y25.toInt ≤ 1073741823 := by
  have b_y17 := ia_b y17
  have b_y20 := ia_b y20
  have b_y25 := ia_b y25
  try have k_0 := ia_n k3 (by first | decide | omega)
  try have k_1 := ia_n k12 (by first | decide | omega)
  try have k_2 := ia_n 100000 (by first | decide | omega)
  try simp only [ia_lt, ia_le, ia_eq, ia_m1, ia_0, ia_1, ne_eq, true_and, and_true, false_and, and_false, or_false, false_or, or_true, true_or, not_true_eq_false, not_false_eq_true] at *
  all_goals omega
set_option maxRecDepth 20000 in
theorem lf_x_farBy_13 (knowF : Nat → Int32) (kfarF : Nat → Int32) (bq : Nat) (cq : Nat) (sq : Nat) (k3 : Nat) (k12 : Nat) (y17 : Int32) (y20 : Int32) (y25 : Int32) (k31 : Nat) (ab_now : NB knowF) (ab_far : FB36 kfarF) (hbq : bq < 6) (hcq : cq < 36) (hsq : sq < 4) (h5 : k3 < 36) (h6 : k3 = bsN (knowF 0).toInt (knowF 1).toInt cq sq) (c9 : ¬ nI k3 = (-1 : Int32)) (h14 : 1 ≤ k12) (h15 : k12 ≤ 4) (h16 : (k12 : Int) = coL knowF k3) (e18 : y17 = knowF (61 + bq)) (c19 : ¬ y17 < nI k12) (e21 : y20 = kfarF k3) (b22 : 0 ≤ y20.toInt) (b23 : y20.toInt ≤ 100000) (c24 : y20 < nI 100000) (e26 : y25 = kfarF k3) (b27 : 0 ≤ y25.toInt) (b28 : y25.toInt ≤ 100000) (h33 : 1 ≤ k31) (h34 : k31 ≤ 4) (h35 : (k31 : Int) = coL knowF k3) : -1073741824 ≤ (nI (64 * k31)).toInt := by
  have b_y17 := ia_b y17
  have b_y20 := ia_b y20
  have b_y25 := ia_b y25
  try have k_0 := ia_n k3 (by first | decide | omega)
  try have k_1 := ia_n k12 (by first | decide | omega)
  try have k_2 := ia_n 100000 (by first | decide | omega)
  try have k_3 := ia_n (64 * k31) (by first | decide | omega)
  try simp only [ia_lt, ia_le, ia_eq, ia_m1, ia_0, ia_1, ne_eq, true_and, and_true, false_and, and_false, or_false, false_or, or_true, true_or, not_true_eq_false, not_false_eq_true] at *
  all_goals omega
set_option maxRecDepth 20000 in
theorem lf_x_farBy_14 (knowF : Nat → Int32) (kfarF : Nat → Int32) (bq : Nat) (cq : Nat) (sq : Nat) (k3 : Nat) (k12 : Nat) (y17 : Int32) (y20 : Int32) (y25 : Int32) (k31 : Nat) (ab_now : NB knowF) (ab_far : FB36 kfarF) (hbq : bq < 6) (hcq : cq < 36) (hsq : sq < 4) (h5 : k3 < 36) (h6 : k3 = bsN (knowF 0).toInt (knowF 1).toInt cq sq) (c9 : ¬ nI k3 = (-1 : Int32)) (h14 : 1 ≤ k12) (h15 : k12 ≤ 4) (h16 : (k12 : Int) = coL knowF k3) (e18 : y17 = knowF (61 + bq)) (c19 : ¬ y17 < nI k12) (e21 : y20 = kfarF k3) (b22 : 0 ≤ y20.toInt) (b23 : y20.toInt ≤ 100000) (c24 : y20 < nI 100000) (e26 : y25 = kfarF k3) (b27 : 0 ≤ y25.toInt) (b28 : y25.toInt ≤ 100000) (h33 : 1 ≤ k31) (h34 : k31 ≤ 4) (h35 : (k31 : Int) = coL knowF k3) : (nI (64 * k31)).toInt ≤ 1073741823 := by
  have b_y17 := ia_b y17
  have b_y20 := ia_b y20
  have b_y25 := ia_b y25
  try have k_0 := ia_n k3 (by first | decide | omega)
  try have k_1 := ia_n k12 (by first | decide | omega)
  try have k_2 := ia_n 100000 (by first | decide | omega)
  try have k_3 := ia_n (64 * k31) (by first | decide | omega)
  try simp only [ia_lt, ia_le, ia_eq, ia_m1, ia_0, ia_1, ne_eq, true_and, and_true, false_and, and_false, or_false, false_or, or_true, true_or, not_true_eq_false, not_false_eq_true] at *
  all_goals omega
set_option maxRecDepth 20000 in
theorem lf_x_farBy_15 (knowF : Nat → Int32) (kfarF : Nat → Int32) (bq : Nat) (cq : Nat) (sq : Nat) (k3 : Nat) (k12 : Nat) (y17 : Int32) (y20 : Int32) (y25 : Int32) (k31 : Nat) (y36 : Int32) (ab_now : NB knowF) (ab_far : FB36 kfarF) (hbq : bq < 6) (hcq : cq < 36) (hsq : sq < 4) (h5 : k3 < 36) (h6 : k3 = bsN (knowF 0).toInt (knowF 1).toInt cq sq) (c9 : ¬ nI k3 = (-1 : Int32)) (h14 : 1 ≤ k12) (h15 : k12 ≤ 4) (h16 : (k12 : Int) = coL knowF k3) (e18 : y17 = knowF (61 + bq)) (c19 : ¬ y17 < nI k12) (e21 : y20 = kfarF k3) (b22 : 0 ≤ y20.toInt) (b23 : y20.toInt ≤ 100000) (c24 : y20 < nI 100000) (e26 : y25 = kfarF k3) (b27 : 0 ≤ y25.toInt) (b28 : y25.toInt ≤ 100000) (h33 : 1 ≤ k31) (h34 : k31 ≤ 4) (h35 : (k31 : Int) = coL knowF k3) (f38 : y36.toInt = y25.toInt + (nI (64 * k31)).toInt) : 0 ≤ y36.toInt := by
  have b_y17 := ia_b y17
  have b_y20 := ia_b y20
  have b_y25 := ia_b y25
  have b_y36 := ia_b y36
  try have k_0 := ia_n k3 (by first | decide | omega)
  try have k_1 := ia_n k12 (by first | decide | omega)
  try have k_2 := ia_n 100000 (by first | decide | omega)
  try have k_3 := ia_n (64 * k31) (by first | decide | omega)
  try simp only [ia_lt, ia_le, ia_eq, ia_m1, ia_0, ia_1, ne_eq, true_and, and_true, false_and, and_false, or_false, false_or, or_true, true_or, not_true_eq_false, not_false_eq_true] at *
  all_goals omega
set_option maxRecDepth 20000 in
theorem lf_x_farBy_16 (knowF : Nat → Int32) (kfarF : Nat → Int32) (bq : Nat) (cq : Nat) (sq : Nat) (k3 : Nat) (k12 : Nat) (y17 : Int32) (y20 : Int32) (y25 : Int32) (k31 : Nat) (y36 : Int32) (ab_now : NB knowF) (ab_far : FB36 kfarF) (hbq : bq < 6) (hcq : cq < 36) (hsq : sq < 4) (h5 : k3 < 36) (h6 : k3 = bsN (knowF 0).toInt (knowF 1).toInt cq sq) (c9 : ¬ nI k3 = (-1 : Int32)) (h14 : 1 ≤ k12) (h15 : k12 ≤ 4) (h16 : (k12 : Int) = coL knowF k3) (e18 : y17 = knowF (61 + bq)) (c19 : ¬ y17 < nI k12) (e21 : y20 = kfarF k3) (b22 : 0 ≤ y20.toInt) (b23 : y20.toInt ≤ 100000) (c24 : y20 < nI 100000) (e26 : y25 = kfarF k3) (b27 : 0 ≤ y25.toInt) (b28 : y25.toInt ≤ 100000) (h33 : 1 ≤ k31) (h34 : k31 ≤ 4) (h35 : (k31 : Int) = coL knowF k3) (f38 : y36.toInt = y25.toInt + (nI (64 * k31)).toInt) : y36.toInt ≤ 100256 := by
  have b_y17 := ia_b y17
  have b_y20 := ia_b y20
  have b_y25 := ia_b y25
  have b_y36 := ia_b y36
  try have k_0 := ia_n k3 (by first | decide | omega)
  try have k_1 := ia_n k12 (by first | decide | omega)
  try have k_2 := ia_n 100000 (by first | decide | omega)
  try have k_3 := ia_n (64 * k31) (by first | decide | omega)
  try simp only [ia_lt, ia_le, ia_eq, ia_m1, ia_0, ia_1, ne_eq, true_and, and_true, false_and, and_false, or_false, false_or, or_true, true_or, not_true_eq_false, not_false_eq_true] at *
  all_goals omega
set_option maxRecDepth 20000 in
theorem lf_x_farBy_17 (knowF : Nat → Int32) (kfarF : Nat → Int32) (bq : Nat) (cq : Nat) (sq : Nat) (k3 : Nat) (k12 : Nat) (y17 : Int32) (y20 : Int32) (y25 : Int32) (k31 : Nat) (y36 : Int32) (ab_now : NB knowF) (ab_far : FB36 kfarF) (hbq : bq < 6) (hcq : cq < 36) (hsq : sq < 4) (h5 : k3 < 36) (h6 : k3 = bsN (knowF 0).toInt (knowF 1).toInt cq sq) (c9 : ¬ nI k3 = (-1 : Int32)) (h14 : 1 ≤ k12) (h15 : k12 ≤ 4) (h16 : (k12 : Int) = coL knowF k3) (e18 : y17 = knowF (61 + bq)) (c19 : ¬ y17 < nI k12) (e21 : y20 = kfarF k3) (b22 : 0 ≤ y20.toInt) (b23 : y20.toInt ≤ 100000) (c24 : y20 < nI 100000) (e26 : y25 = kfarF k3) (b27 : 0 ≤ y25.toInt) (b28 : y25.toInt ≤ 100000) (h33 : 1 ≤ k31) (h34 : k31 ≤ 4) (h35 : (k31 : Int) = coL knowF k3) (f38 : y36.toInt = y25.toInt + (nI (64 * k31)).toInt) (b39 : 0 ≤ y36.toInt) (b40 : y36.toInt ≤ 100256) : -1073741824 ≤ y36.toInt := by
  have b_y17 := ia_b y17
  have b_y20 := ia_b y20
  have b_y25 := ia_b y25
  have b_y36 := ia_b y36
  try have k_0 := ia_n k3 (by first | decide | omega)
  try have k_1 := ia_n k12 (by first | decide | omega)
  try have k_2 := ia_n 100000 (by first | decide | omega)
  try have k_3 := ia_n (64 * k31) (by first | decide | omega)
  try simp only [ia_lt, ia_le, ia_eq, ia_m1, ia_0, ia_1, ne_eq, true_and, and_true, false_and, and_false, or_false, false_or, or_true, true_or, not_true_eq_false, not_false_eq_true] at *
  all_goals omega
set_option maxRecDepth 20000 in
theorem lf_x_farBy_18 (knowF : Nat → Int32) (kfarF : Nat → Int32) (bq : Nat) (cq : Nat) (sq : Nat) (k3 : Nat) (k12 : Nat) (y17 : Int32) (y20 : Int32) (y25 : Int32) (k31 : Nat) (y36 : Int32) (ab_now : NB knowF) (ab_far : FB36 kfarF) (hbq : bq < 6) (hcq : cq < 36) (hsq : sq < 4) (h5 : k3 < 36) (h6 : k3 = bsN (knowF 0).toInt (knowF 1).toInt cq sq) (c9 : ¬ nI k3 = (-1 : Int32)) (h14 : 1 ≤ k12) (h15 : k12 ≤ 4) (h16 : (k12 : Int) = coL knowF k3) (e18 : y17 = knowF (61 + bq)) (c19 : ¬ y17 < nI k12) (e21 : y20 = kfarF k3) (b22 : 0 ≤ y20.toInt) (b23 : y20.toInt ≤ 100000) (c24 : y20 < nI 100000) (e26 : y25 = kfarF k3) (b27 : 0 ≤ y25.toInt) (b28 : y25.toInt ≤ 100000) (h33 : 1 ≤ k31) (h34 : k31 ≤ 4) (h35 : (k31 : Int) = coL knowF k3) (f38 : y36.toInt = y25.toInt + (nI (64 * k31)).toInt) (b39 : 0 ≤ y36.toInt) (b40 : y36.toInt ≤ 100256) : y36.toInt ≤ 1073741823 := by
  have b_y17 := ia_b y17
  have b_y20 := ia_b y20
  have b_y25 := ia_b y25
  have b_y36 := ia_b y36
  try have k_0 := ia_n k3 (by first | decide | omega)
  try have k_1 := ia_n k12 (by first | decide | omega)
  try have k_2 := ia_n 100000 (by first | decide | omega)
  try have k_3 := ia_n (64 * k31) (by first | decide | omega)
  try simp only [ia_lt, ia_le, ia_eq, ia_m1, ia_0, ia_1, ne_eq, true_and, and_true, false_and, and_false, or_false, false_or, or_true, true_or, not_true_eq_false, not_false_eq_true] at *
  all_goals omega
set_option maxRecDepth 20000 in
theorem lf_x_farBy_19   : -1073741824 ≤ (nI 1).toInt := by
  try have k_0 := ia_n 1 (by first | decide | omega)
  try simp only [ia_lt, ia_le, ia_eq, ia_m1, ia_0, ia_1, ne_eq, true_and, and_true, false_and, and_false, or_false, false_or, or_true, true_or, not_true_eq_false, not_false_eq_true] at *
  all_goals omega
set_option maxRecDepth 20000 in
theorem lf_x_farBy_20   : (nI 1).toInt ≤ 1073741823 := by
  try have k_0 := ia_n 1 (by first | decide | omega)
  try simp only [ia_lt, ia_le, ia_eq, ia_m1, ia_0, ia_1, ne_eq, true_and, and_true, false_and, and_false, or_false, false_or, or_true, true_or, not_true_eq_false, not_false_eq_true] at *
  all_goals omega
set_option maxRecDepth 20000 in
theorem lf_x_farBy_21 (knowF : Nat → Int32) (kfarF : Nat → Int32) (bq : Nat) (cq : Nat) (sq : Nat) (k3 : Nat) (k12 : Nat) (y17 : Int32) (y20 : Int32) (y25 : Int32) (k31 : Nat) (y36 : Int32) (y41 : Int32) (ab_now : NB knowF) (ab_far : FB36 kfarF) (hbq : bq < 6) (hcq : cq < 36) (hsq : sq < 4) (h5 : k3 < 36) (h6 : k3 = bsN (knowF 0).toInt (knowF 1).toInt cq sq) (c9 : ¬ nI k3 = (-1 : Int32)) (h14 : 1 ≤ k12) (h15 : k12 ≤ 4) (h16 : (k12 : Int) = coL knowF k3) (e18 : y17 = knowF (61 + bq)) (c19 : ¬ y17 < nI k12) (e21 : y20 = kfarF k3) (b22 : 0 ≤ y20.toInt) (b23 : y20.toInt ≤ 100000) (c24 : y20 < nI 100000) (e26 : y25 = kfarF k3) (b27 : 0 ≤ y25.toInt) (b28 : y25.toInt ≤ 100000) (h33 : 1 ≤ k31) (h34 : k31 ≤ 4) (h35 : (k31 : Int) = coL knowF k3) (f38 : y36.toInt = y25.toInt + (nI (64 * k31)).toInt) (b39 : 0 ≤ y36.toInt) (b40 : y36.toInt ≤ 100256) (f43 : y41.toInt = y36.toInt + (nI 1).toInt) : 1 ≤ y41.toInt := by
  have b_y17 := ia_b y17
  have b_y20 := ia_b y20
  have b_y25 := ia_b y25
  have b_y36 := ia_b y36
  have b_y41 := ia_b y41
  try have k_0 := ia_n k3 (by first | decide | omega)
  try have k_1 := ia_n k12 (by first | decide | omega)
  try have k_2 := ia_n 100000 (by first | decide | omega)
  try have k_3 := ia_n (64 * k31) (by first | decide | omega)
  try have k_4 := ia_n 1 (by first | decide | omega)
  try simp only [ia_lt, ia_le, ia_eq, ia_m1, ia_0, ia_1, ne_eq, true_and, and_true, false_and, and_false, or_false, false_or, or_true, true_or, not_true_eq_false, not_false_eq_true] at *
  all_goals omega
set_option maxRecDepth 20000 in
theorem lf_x_farBy_22 (knowF : Nat → Int32) (kfarF : Nat → Int32) (bq : Nat) (cq : Nat) (sq : Nat) (k3 : Nat) (k12 : Nat) (y17 : Int32) (y20 : Int32) (y25 : Int32) (k31 : Nat) (y36 : Int32) (y41 : Int32) (ab_now : NB knowF) (ab_far : FB36 kfarF) (hbq : bq < 6) (hcq : cq < 36) (hsq : sq < 4) (h5 : k3 < 36) (h6 : k3 = bsN (knowF 0).toInt (knowF 1).toInt cq sq) (c9 : ¬ nI k3 = (-1 : Int32)) (h14 : 1 ≤ k12) (h15 : k12 ≤ 4) (h16 : (k12 : Int) = coL knowF k3) (e18 : y17 = knowF (61 + bq)) (c19 : ¬ y17 < nI k12) (e21 : y20 = kfarF k3) (b22 : 0 ≤ y20.toInt) (b23 : y20.toInt ≤ 100000) (c24 : y20 < nI 100000) (e26 : y25 = kfarF k3) (b27 : 0 ≤ y25.toInt) (b28 : y25.toInt ≤ 100000) (h33 : 1 ≤ k31) (h34 : k31 ≤ 4) (h35 : (k31 : Int) = coL knowF k3) (f38 : y36.toInt = y25.toInt + (nI (64 * k31)).toInt) (b39 : 0 ≤ y36.toInt) (b40 : y36.toInt ≤ 100256) (f43 : y41.toInt = y36.toInt + (nI 1).toInt) : y41.toInt ≤ 100257 := by
  have b_y17 := ia_b y17
  have b_y20 := ia_b y20
  have b_y25 := ia_b y25
  have b_y36 := ia_b y36
  have b_y41 := ia_b y41
  try have k_0 := ia_n k3 (by first | decide | omega)
  try have k_1 := ia_n k12 (by first | decide | omega)
  try have k_2 := ia_n 100000 (by first | decide | omega)
  try have k_3 := ia_n (64 * k31) (by first | decide | omega)
  try have k_4 := ia_n 1 (by first | decide | omega)
  try simp only [ia_lt, ia_le, ia_eq, ia_m1, ia_0, ia_1, ne_eq, true_and, and_true, false_and, and_false, or_false, false_or, or_true, true_or, not_true_eq_false, not_false_eq_true] at *
  all_goals omega
set_option maxRecDepth 20000 in
theorem lf_x_farBy_23 (knowF : Nat → Int32) (kfarF : Nat → Int32) (bq : Nat) (cq : Nat) (sq : Nat) (k3 : Nat) (k12 : Nat) (y17 : Int32) (y20 : Int32) (y25 : Int32) (k31 : Nat) (y36 : Int32) (y41 : Int32) (ab_now : NB knowF) (ab_far : FB36 kfarF) (hbq : bq < 6) (hcq : cq < 36) (hsq : sq < 4) (h5 : k3 < 36) (h6 : k3 = bsN (knowF 0).toInt (knowF 1).toInt cq sq) (c9 : ¬ nI k3 = (-1 : Int32)) (h14 : 1 ≤ k12) (h15 : k12 ≤ 4) (h16 : (k12 : Int) = coL knowF k3) (e18 : y17 = knowF (61 + bq)) (c19 : ¬ y17 < nI k12) (e21 : y20 = kfarF k3) (b22 : 0 ≤ y20.toInt) (b23 : y20.toInt ≤ 100000) (c24 : y20 < nI 100000) (e26 : y25 = kfarF k3) (b27 : 0 ≤ y25.toInt) (b28 : y25.toInt ≤ 100000) (h33 : 1 ≤ k31) (h34 : k31 ≤ 4) (h35 : (k31 : Int) = coL knowF k3) (f38 : y36.toInt = y25.toInt + (nI (64 * k31)).toInt) (b39 : 0 ≤ y36.toInt) (b40 : y36.toInt ≤ 100256) (f43 : y41.toInt = y36.toInt + (nI 1).toInt) (b44 : 1 ≤ y41.toInt) (b45 : y41.toInt ≤ 100257) : y41.toInt = fbL knowF kfarF bq cq sq ∧ 0 ≤ y41.toInt ∧ y41.toInt ≤ 100256 := by
  refine ⟨?_, ?_⟩
  · have b_y17 := ia_b y17
    have b_y20 := ia_b y20
    have b_y25 := ia_b y25
    have b_y36 := ia_b y36
    have b_y41 := ia_b y41
    try have k_0 := ia_n k3 (by first | decide | omega)
    try have k_1 := ia_n k12 (by first | decide | omega)
    try have k_2 := ia_n 100000 (by first | decide | omega)
    try have k_3 := ia_n (64 * k31) (by first | decide | omega)
    try have k_4 := ia_n 1 (by first | decide | omega)
    unfold fbL
    rw [← h6]
    unfold fbD
    rw [if_neg (by omega)]
    try simp only [ia_lt, ia_le, ia_eq, ia_m1, ia_0, ia_1, ne_eq, true_and, and_true, false_and, and_false, or_false, false_or, or_true, true_or, not_true_eq_false, not_false_eq_true] at *
    repeat' split
    all_goals omega
  · have b_y17 := ia_b y17
    have b_y20 := ia_b y20
    have b_y25 := ia_b y25
    have b_y36 := ia_b y36
    have b_y41 := ia_b y41
    try have k_0 := ia_n k3 (by first | decide | omega)
    try have k_1 := ia_n k12 (by first | decide | omega)
    try have k_2 := ia_n 100000 (by first | decide | omega)
    try have k_3 := ia_n (64 * k31) (by first | decide | omega)
    try have k_4 := ia_n 1 (by first | decide | omega)
    try simp only [ia_lt, ia_le, ia_eq, ia_m1, ia_0, ia_1, ne_eq, true_and, and_true, false_and, and_false, or_false, false_or, or_true, true_or, not_true_eq_false, not_false_eq_true] at *
    all_goals omega
set_option maxRecDepth 20000 in
theorem lf_x_farBy_24 (knowF : Nat → Int32) (kfarF : Nat → Int32) (bq : Nat) (cq : Nat) (sq : Nat) (k3 : Nat) (k12 : Nat) (y17 : Int32) (y20 : Int32) (ab_now : NB knowF) (ab_far : FB36 kfarF) (hbq : bq < 6) (hcq : cq < 36) (hsq : sq < 4) (h5 : k3 < 36) (h6 : k3 = bsN (knowF 0).toInt (knowF 1).toInt cq sq) (c9 : ¬ nI k3 = (-1 : Int32)) (h14 : 1 ≤ k12) (h15 : k12 ≤ 4) (h16 : (k12 : Int) = coL knowF k3) (e18 : y17 = knowF (61 + bq)) (c19 : ¬ y17 < nI k12) (e21 : y20 = kfarF k3) (b22 : 0 ≤ y20.toInt) (b23 : y20.toInt ≤ 100000) (c24 : ¬ y20 < nI 100000) : (nI 100000).toInt = fbL knowF kfarF bq cq sq ∧ 0 ≤ (nI 100000).toInt ∧ (nI 100000).toInt ≤ 100256 := by
  refine ⟨?_, ?_⟩
  · have b_y17 := ia_b y17
    have b_y20 := ia_b y20
    try have k_0 := ia_n k3 (by first | decide | omega)
    try have k_1 := ia_n k12 (by first | decide | omega)
    try have k_2 := ia_n 100000 (by first | decide | omega)
    unfold fbL
    rw [← h6]
    unfold fbD
    rw [if_neg (by omega)]
    try simp only [ia_lt, ia_le, ia_eq, ia_m1, ia_0, ia_1, ne_eq, true_and, and_true, false_and, and_false, or_false, false_or, or_true, true_or, not_true_eq_false, not_false_eq_true] at *
    repeat' split
    all_goals omega
  · have b_y17 := ia_b y17
    have b_y20 := ia_b y20
    try have k_0 := ia_n k3 (by first | decide | omega)
    try have k_1 := ia_n k12 (by first | decide | omega)
    try have k_2 := ia_n 100000 (by first | decide | omega)
    try simp only [ia_lt, ia_le, ia_eq, ia_m1, ia_0, ia_1, ne_eq, true_and, and_true, false_and, and_false, or_false, false_or, or_true, true_or, not_true_eq_false, not_false_eq_true] at *
    all_goals omega
set_option maxHeartbeats 4000000 in
set_option maxRecDepth 100000 in
theorem c_x_farBy (l : Launch) (dC : Nat → ClassId) (dI : Nat → Nat → Nat) (ky : Nat → ClassId) (o : Nat) (kthrown : Int32) (ktape : Nat) (ktaped : Nat) (ksize : Nat) (klimit : Nat) (kto : Nat) (kfrom : Nat) (kkind : Int32) (knumber : Int32) (ksign : Int32) (kfault : Int32) (kplace : Int32) (kword : Int64) (ktold : Int32) (know : Nat) (kread : Nat) (kkept : Nat) (ksnaps : Nat) (kaside : Nat) (kname : Nat) (kreadName : Nat) (kkeptName : Nat) (kisKept : Nat) (konces : Nat) (ksnapMany : Nat) (khasCells : Int32) (kpoured : Nat) (kfar : Nat) (ksides : Nat) (ksideMany : Nat) (kwayDays : Int32) (khasWay : Int32) (klines : Nat) (kmet : Nat) (kmetMany : Nat) (ksunk : Nat) (ktrying : Nat) (ksunkMany : Nat) (ksending : Int32) (kfleets : Int32) (ktext : Nat) (ktexts : Nat) (kseed : Int32) (kline : Nat) (kwritten : Nat) (klineMany : Nat) (khasWritten : Int32) (knode : Nat) (knodes : Nat) (konesMany : Nat) (kwithin : Nat) (ktop : Nat) (knowF : Nat → Int32) (kfarF : Nat → Int32) (bq : Nat) (cq : Nat) (sq : Nat) (iv_ko_0 : ktaped ≤ 940) (iv_ko_1 : ksize ≤ 940) (iv_ko_2 : klimit ≤ 900) (iv_ko_3 : kto ≤ ksize) (iv_ko_4 : kfrom ≤ 940) (iv_ko_5 : ksnapMany ≤ 8) (iv_ko_6 : ksideMany ≤ 36) (iv_ko_7 : kmetMany ≤ 3) (iv_ko_8 : ksunkMany ≤ 36) (iv_ko_9 : ktexts ≤ 64) (iv_ko_10 : klineMany ≤ 40) (iv_ko_11 : knodes ≤ 60) (iv_ko_12 : konesMany ≤ 20) (iv_ko_13 : kwithin ≤ 8) (iv_ko_14 : ktop ≤ 59) (ab_now : NB knowF) (ab_far : FB36 kfarF) (hbq : bq < 6) (hcq : cq < 36) (hsq : sq < 4) : Met l yX12_farBy wsX12_farBy ({ frames := 3, cells := 0, slots := 0, locals := 68 }) (PcP dC dI ky [.ref o, .int (nI bq), .int (nI cq), .int (nI sq)] [(o, .inr (12, [.int kthrown, .ref ktape, .int (nI ktaped), .int (nI ksize), .int (nI klimit), .int (nI kto), .int (nI kfrom), .int kkind, .int knumber, .int ksign, .int kfault, .int kplace, .long kword, .int ktold, .ref know, .ref kread, .ref kkept, .ref ksnaps, .ref kaside, .ref kname, .ref kreadName, .ref kkeptName, .ref kisKept, .ref konces, .int (nI ksnapMany), .int khasCells, .ref kpoured, .ref kfar, .ref ksides, .int (nI ksideMany), .int kwayDays, .int khasWay, .ref klines, .ref kmet, .int (nI kmetMany), .ref ksunk, .ref ktrying, .int (nI ksunkMany), .int ksending, .int kfleets, .ref ktext, .int (nI ktexts), .int kseed, .ref kline, .ref kwritten, .int (nI klineMany), .int khasWritten, .ref knode, .int (nI knodes), .int (nI konesMany), .int (nI kwithin), .int (nI ktop)])), (know, .inl (ky 0, 373, .inl knowF)), (kfar, .inl (ky 0, 36, .inl kfarF))]) (vp_Si (fun r : Int32 => r.toInt = fbL knowF kfarF bq cq sq ∧ 0 ≤ r.toInt ∧ r.toInt ≤ 100256)) 0 0 (fun _ => False) := by
  refine Met.ofW (cc := cX12_farBy) (maxL := 5) (ret := (some .int)) (by decide) rfl ?_
  intro p e s m args below meth c s₁ B hml hv
  obtain ⟨rfl, hP, hK⟩ := hv
  have hx := B.exec
  have hb := B.bytes
  have hr := B.returns
  have hts := atoms_spec (ws := wsX12_farBy) B.pre
  have hown : s.vm.findClass RX12 = some m.cls := findClass_of_methodNamed B.named
  have hlocks := B.notSynchronized
  have hin12 : ∀ w ∈ u_ws RX12 TX12 52, w ∈ wsX12_farBy := by decide +kernel
  have hl := lv_entry ([.ref o, .int (nI bq), .int (nI cq), .int (nI sq)]) (n := 5) (Nat.le_of_ble_eq_true rfl)
  rw [lg_entry_eq]
  generalize (lg_sl ([.ref o, .int (nI bq), .int (nI cq), .int (nI sq)]) ++ List.replicate (5 - (lg_sl ([.ref o, .int (nI bq), .int (nI cq), .int (nI sq)])).length) Slot.unset).toArray = ls at hl ⊢
  have hl : lv_has ls 5 [(0, .ref o), (1, .int (nI bq)), (2, .int (nI cq)), (3, .int (nI sq))] := hl
  refine q_name (fun Q hQ => ?_)
  generalize ([.ref o, .int (nI bq), .int (nI cq), .int (nI sq)] : List Value).toArray = args at hts hQ ⊢
  refine lv_aload_n hx hb dX12_farBy_0 rfl (lv_at hl 0 rfl) ?_
  refine lv_iload_n hx hb dX12_farBy_1 rfl (lv_at hl 2 rfl) ?_
  refine lv_iload_n hx hb dX12_farBy_2 rfl (lv_at hl 3 rfl) ?_
  refine vp_callSi (W.runV (As := [.int (nI cq), .int (nI sq)]) (rest := []) ⟨hx, hb, hml, hown, hts⟩ (c_x_besideE l dC dI ky o kthrown ktape ktaped ksize klimit kto kfrom kkind knumber ksign kfault kplace kword ktold know kread kkept ksnaps kaside kname kreadName kkeptName kisKept konces ksnapMany khasCells kpoured kfar ksides ksideMany kwayDays khasWay klines kmet kmetMany ksunk ktrying ksunkMany ksending kfleets ktext ktexts kseed kline kwritten klineMany khasWritten knode knodes konesMany kwithin ktop knowF cq sq iv_ko_0 iv_ko_1 iv_ko_2 iv_ko_3 iv_ko_4 iv_ko_5 iv_ko_6 iv_ko_7 iv_ko_8 iv_ko_9 iv_ko_10 iv_ko_11 iv_ko_12 iv_ko_13 iv_ko_14 ab_now hcq hsq) (cwV 2 hts gX12_farBy_X12_beside rfl rfl rfl (by decide +kernel) ⟨(Nat.le_of_ble_eq_true rfl), (Nat.le_of_ble_eq_true rfl)⟩) (pre_PV hK hP [0, 1] rfl (ci := 12) (q0 := 0) rfl rfl) rfl rfl hl.1 rfl (lv_room (Nat.le_of_ble_eq_true rfl)) dX12_farBy_3 ⟨(Nat.le_of_ble_eq_true rfl), (Nat.le_of_ble_eq_true rfl)⟩) (fun r1 p2 => ?_)
  rcases p2 with ⟨rfl, t7⟩ | ⟨k3, ⟨h5, h6⟩, rfl⟩
  · refine lv_istore (lv' := [(4, .int (-1 : Int32)), (0, .ref o), (1, .int (nI bq)), (2, .int (nI cq)), (3, .int (nI sq))]) hx hb dX12_farBy_6 hl (by decide) rfl (fun ls hl => ?_)
    refine lv_iload hx hb dX12_farBy_8 (lv_at hl 0 rfl) ?_
    refine lv_iconst (v := (-1 : Int32)) hx hb dX12_farBy_10 (by decide) ?_
    refine lv_icmp_eq (tgt := 45) hx hb dX12_farBy_11 (by decide) (fun c8 => ?_) (fun c8 => absurd (by decide) c8)
    refine lv_ldcw (v := nI 100000) hx hb hown (hts (.constant RX12 315 (nI 100000)) (List.mem_of_getElem? (i := 3) rfl)) dX12_farBy_45 ?_
    refine lv_goto (tgt := 70) hx hb dX12_farBy_48 (by decide) ?_
    rw [hQ]
    exact W.iret (v := nI 100000) hx hb hr (fun t9 ht9 hW9 => ⟨nI 100000, rfl, (lf_x_farBy_1 knowF kfarF bq cq sq ab_now ab_far hbq hcq hsq t7), ht9⟩) (fun _ h => absurd h List.not_mem_nil) dX12_farBy_70
  · refine lv_istore (lv' := [(4, .int (nI k3)), (0, .ref o), (1, .int (nI bq)), (2, .int (nI cq)), (3, .int (nI sq))]) hx hb dX12_farBy_6 hl (by decide) rfl (fun ls hl => ?_)
    refine lv_iload hx hb dX12_farBy_8 (lv_at hl 0 rfl) ?_
    refine lv_iconst (v := (-1 : Int32)) hx hb dX12_farBy_10 (by decide) ?_
    refine lv_icmp_eq (tgt := 45) hx hb dX12_farBy_11 (by decide) (fun c9 => ?_) (fun c9 => ?_)
    · refine lv_ldcw (v := nI 100000) hx hb hown (hts (.constant RX12 315 (nI 100000)) (List.mem_of_getElem? (i := 3) rfl)) dX12_farBy_45 ?_
      refine lv_goto (tgt := 70) hx hb dX12_farBy_48 (by decide) ?_
      rw [hQ]
      exact W.iret (v := nI 100000) hx hb hr (fun t9 ht9 hW9 => ⟨nI 100000, rfl, (lf_x_farBy_2 knowF kfarF bq cq sq k3 ab_now ab_far hbq hcq hsq h5 h6 c9), ht9⟩) (fun _ h => absurd h List.not_mem_nil) dX12_farBy_70
    · refine lv_aload_n hx hb dX12_farBy_14 rfl (lv_at hl 1 rfl) ?_
      refine lv_iload hx hb dX12_farBy_15 (lv_at hl 0 rfl) ?_
      refine vp_callSi (W.runV (As := [.int (nI k3)]) (rest := []) ⟨hx, hb, hml, hown, hts⟩ (c_x_costOfE l dC dI ky o kthrown ktape ktaped ksize klimit kto kfrom kkind knumber ksign kfault kplace kword ktold know kread kkept ksnaps kaside kname kreadName kkeptName kisKept konces ksnapMany khasCells kpoured kfar ksides ksideMany kwayDays khasWay klines kmet kmetMany ksunk ktrying ksunkMany ksending kfleets ktext ktexts kseed kline kwritten klineMany khasWritten knode knodes konesMany kwithin ktop knowF k3 iv_ko_0 iv_ko_1 iv_ko_2 iv_ko_3 iv_ko_4 iv_ko_5 iv_ko_6 iv_ko_7 iv_ko_8 iv_ko_9 iv_ko_10 iv_ko_11 iv_ko_12 iv_ko_13 iv_ko_14 ab_now h5) (cwV 1 hts gX12_farBy_X12_costOf rfl rfl rfl (by decide +kernel) ⟨(Nat.le_of_ble_eq_true rfl), (Nat.le_of_ble_eq_true rfl)⟩) (pre_PV hK hP [0, 1] rfl (ci := 12) (q0 := 0) rfl rfl) rfl rfl hl.1 rfl (lv_room (Nat.le_of_ble_eq_true rfl)) dX12_farBy_17 ⟨(Nat.le_of_ble_eq_true rfl), (Nat.le_of_ble_eq_true rfl)⟩) (fun r10 p11 => ?_)
      obtain ⟨k12, ⟨h14, h15, h16⟩, rfl⟩ := p11
      refine lv_aload_n hx hb dX12_farBy_20 rfl (lv_at hl 1 rfl) ?_
      refine va_get (D := (dC, dI)) (ci := 12) (v := .ref know) (C := RX12) (T := TX12) (N := 52) hx hb hts hin12 hown hK hP 0 rfl rfl 14 (by decide) (hts (.fieldLink RX12 98 "PorridgeSeaModel" "now" "[I") (List.mem_of_getElem? (i := 1) rfl)) (fun _ h9 => h9) rfl dX12_farBy_21 ?_
      refine lv_bipush (v := nI 61) hx hb dX12_farBy_24 (by decide) ?_
      refine lv_iload_n hx hb dX12_farBy_26 rfl (lv_at hl 2 rfl) ?_
      refine lv_iadd hx hb dX12_farBy_27 ?_
      refine r_ti (nI (61 + bq)) (nI_add _ _) ?_
      obtain ⟨y17, e18⟩ : ∃ z9, z9 = knowF (61 + bq) := ⟨_, rfl⟩
      refine r_iald hx hb hK hP 1 rfl (61 + bq) (lf_x_farBy_3 knowF bq cq sq k3 k12 y17 ab_now hbq hcq hsq h5 h6 c9 h14 h15 h16 e18) (by decide) y17 e18.symm dX12_farBy_28 ?_
      refine lv_icmp_gt (tgt := 45) hx hb dX12_farBy_29 (by decide) (fun c19 => ?_) (fun c19 => ?_)
      · refine lv_ldcw (v := nI 100000) hx hb hown (hts (.constant RX12 315 (nI 100000)) (List.mem_of_getElem? (i := 3) rfl)) dX12_farBy_45 ?_
        refine lv_goto (tgt := 70) hx hb dX12_farBy_48 (by decide) ?_
        rw [hQ]
        exact W.iret (v := nI 100000) hx hb hr (fun t9 ht9 hW9 => ⟨nI 100000, rfl, (lf_x_farBy_4 knowF kfarF bq cq sq k3 k12 y17 ab_now ab_far hbq hcq hsq h5 h6 c9 h14 h15 h16 e18 c19), ht9⟩) (fun _ h => absurd h List.not_mem_nil) dX12_farBy_70
      · refine lv_aload_n hx hb dX12_farBy_32 rfl (lv_at hl 1 rfl) ?_
        refine va_get (D := (dC, dI)) (ci := 12) (v := .ref kfar) (C := RX12) (T := TX12) (N := 52) hx hb hts hin12 hown hK hP 0 rfl rfl 27 (by decide) (hts (.fieldLink RX12 133 "PorridgeSeaModel" "far" "[I") (List.mem_of_getElem? (i := 2) rfl)) (fun _ h9 => h9) rfl dX12_farBy_33 ?_
        refine lv_iload hx hb dX12_farBy_36 (lv_at hl 0 rfl) ?_
        obtain ⟨y20, e21⟩ : ∃ z9, z9 = kfarF k3 := ⟨_, rfl⟩
        refine r_iald hx hb hK hP 2 rfl k3 (lf_x_farBy_5 knowF kfarF bq cq sq k3 k12 y17 y20 ab_now ab_far hbq hcq hsq h5 h6 c9 h14 h15 h16 e18 c19 e21) (by decide) y20 e21.symm dX12_farBy_38 ?_
        obtain ⟨b22, b23⟩ : (0 : Int) ≤ y20.toInt ∧ y20.toInt ≤ 100000 := by rw [e21]; exact ld_FB36_0 ab_far k3 (lf_x_farBy_6 knowF kfarF bq cq sq k3 k12 y17 y20 ab_now ab_far hbq hcq hsq h5 h6 c9 h14 h15 h16 e18 c19 e21) (lf_x_farBy_7 knowF kfarF bq cq sq k3 k12 y17 y20 ab_now ab_far hbq hcq hsq h5 h6 c9 h14 h15 h16 e18 c19 e21)
        refine lv_ldcw (v := nI 100000) hx hb hown (hts (.constant RX12 315 (nI 100000)) (List.mem_of_getElem? (i := 3) rfl)) dX12_farBy_39 ?_
        refine lv_icmp_lt (tgt := 51) hx hb dX12_farBy_42 (by decide) (fun c24 => ?_) (fun c24 => ?_)
        · refine lv_aload_n hx hb dX12_farBy_51 rfl (lv_at hl 1 rfl) ?_
          refine va_get (D := (dC, dI)) (ci := 12) (v := .ref kfar) (C := RX12) (T := TX12) (N := 52) hx hb hts hin12 hown hK hP 0 rfl rfl 27 (by decide) (hts (.fieldLink RX12 133 "PorridgeSeaModel" "far" "[I") (List.mem_of_getElem? (i := 2) rfl)) (fun _ h9 => h9) rfl dX12_farBy_52 ?_
          refine lv_iload hx hb dX12_farBy_55 (lv_at hl 0 rfl) ?_
          obtain ⟨y25, e26⟩ : ∃ z9, z9 = kfarF k3 := ⟨_, rfl⟩
          refine r_iald hx hb hK hP 2 rfl k3 (lf_x_farBy_8 knowF kfarF bq cq sq k3 k12 y17 y20 y25 ab_now ab_far hbq hcq hsq h5 h6 c9 h14 h15 h16 e18 c19 e21 b22 b23 c24 e26) (by decide) y25 e26.symm dX12_farBy_57 ?_
          obtain ⟨b27, b28⟩ : (0 : Int) ≤ y25.toInt ∧ y25.toInt ≤ 100000 := by rw [e26]; exact ld_FB36_0 ab_far k3 (lf_x_farBy_9 knowF kfarF bq cq sq k3 k12 y17 y20 y25 ab_now ab_far hbq hcq hsq h5 h6 c9 h14 h15 h16 e18 c19 e21 b22 b23 c24 e26) (lf_x_farBy_10 knowF kfarF bq cq sq k3 k12 y17 y20 y25 ab_now ab_far hbq hcq hsq h5 h6 c9 h14 h15 h16 e18 c19 e21 b22 b23 c24 e26)
          refine lv_bipush (v := nI 64) hx hb dX12_farBy_58 (by decide) ?_
          refine lv_aload_n hx hb dX12_farBy_60 rfl (lv_at hl 1 rfl) ?_
          refine lv_iload hx hb dX12_farBy_61 (lv_at hl 0 rfl) ?_
          refine vp_callSi (W.runV (As := [.int (nI k3)]) (rest := [.int (nI 64), .int y25]) ⟨hx, hb, hml, hown, hts⟩ (c_x_costOfE l dC dI ky o kthrown ktape ktaped ksize klimit kto kfrom kkind knumber ksign kfault kplace kword ktold know kread kkept ksnaps kaside kname kreadName kkeptName kisKept konces ksnapMany khasCells kpoured kfar ksides ksideMany kwayDays khasWay klines kmet kmetMany ksunk ktrying ksunkMany ksending kfleets ktext ktexts kseed kline kwritten klineMany khasWritten knode knodes konesMany kwithin ktop knowF k3 iv_ko_0 iv_ko_1 iv_ko_2 iv_ko_3 iv_ko_4 iv_ko_5 iv_ko_6 iv_ko_7 iv_ko_8 iv_ko_9 iv_ko_10 iv_ko_11 iv_ko_12 iv_ko_13 iv_ko_14 ab_now h5) (cwV 1 hts gX12_farBy_X12_costOf rfl rfl rfl (by decide +kernel) ⟨(Nat.le_of_ble_eq_true rfl), (Nat.le_of_ble_eq_true rfl)⟩) (pre_PV hK hP [0, 1] rfl (ci := 12) (q0 := 0) rfl rfl) rfl rfl hl.1 rfl (lv_room (Nat.le_of_ble_eq_true rfl)) dX12_farBy_63 ⟨(Nat.le_of_ble_eq_true rfl), (Nat.le_of_ble_eq_true rfl)⟩) (fun r29 p30 => ?_)
          obtain ⟨k31, ⟨h33, h34, h35⟩, rfl⟩ := p30
          refine lv_imul hx hb dX12_farBy_66 ?_
          refine r_ti (nI (64 * k31)) (pk_mul _ _) ?_
          refine lv_iadd hx hb dX12_farBy_67 ?_
          refine lv_topi (fun y36 e37 => ?_)
          have f38 : y36.toInt = y25.toInt + (nI (64 * k31)).toInt := by rw [e37]; exact ia_addS _ _ (lf_x_farBy_11 knowF kfarF bq cq sq k3 k12 y17 y20 y25 k31 ab_now ab_far hbq hcq hsq h5 h6 c9 h14 h15 h16 e18 c19 e21 b22 b23 c24 e26 b27 b28 h33 h34 h35) (lf_x_farBy_12 knowF kfarF bq cq sq k3 k12 y17 y20 y25 k31 ab_now ab_far hbq hcq hsq h5 h6 c9 h14 h15 h16 e18 c19 e21 b22 b23 c24 e26 b27 b28 h33 h34 h35) (lf_x_farBy_13 knowF kfarF bq cq sq k3 k12 y17 y20 y25 k31 ab_now ab_far hbq hcq hsq h5 h6 c9 h14 h15 h16 e18 c19 e21 b22 b23 c24 e26 b27 b28 h33 h34 h35) (lf_x_farBy_14 knowF kfarF bq cq sq k3 k12 y17 y20 y25 k31 ab_now ab_far hbq hcq hsq h5 h6 c9 h14 h15 h16 e18 c19 e21 b22 b23 c24 e26 b27 b28 h33 h34 h35)
          have b39 : 0 ≤ y36.toInt := (lf_x_farBy_15 knowF kfarF bq cq sq k3 k12 y17 y20 y25 k31 y36 ab_now ab_far hbq hcq hsq h5 h6 c9 h14 h15 h16 e18 c19 e21 b22 b23 c24 e26 b27 b28 h33 h34 h35 f38)
          have b40 : y36.toInt ≤ 100256 := (lf_x_farBy_16 knowF kfarF bq cq sq k3 k12 y17 y20 y25 k31 y36 ab_now ab_far hbq hcq hsq h5 h6 c9 h14 h15 h16 e18 c19 e21 b22 b23 c24 e26 b27 b28 h33 h34 h35 f38)
          refine lv_iconst (v := nI 1) hx hb dX12_farBy_68 (by decide) ?_
          refine lv_iadd hx hb dX12_farBy_69 ?_
          refine lv_topi (fun y41 e42 => ?_)
          have f43 : y41.toInt = y36.toInt + (nI 1).toInt := by rw [e42]; exact ia_addS _ _ (lf_x_farBy_17 knowF kfarF bq cq sq k3 k12 y17 y20 y25 k31 y36 ab_now ab_far hbq hcq hsq h5 h6 c9 h14 h15 h16 e18 c19 e21 b22 b23 c24 e26 b27 b28 h33 h34 h35 f38 b39 b40) (lf_x_farBy_18 knowF kfarF bq cq sq k3 k12 y17 y20 y25 k31 y36 ab_now ab_far hbq hcq hsq h5 h6 c9 h14 h15 h16 e18 c19 e21 b22 b23 c24 e26 b27 b28 h33 h34 h35 f38 b39 b40) (lf_x_farBy_19) (lf_x_farBy_20)
          have b44 : 1 ≤ y41.toInt := (lf_x_farBy_21 knowF kfarF bq cq sq k3 k12 y17 y20 y25 k31 y36 y41 ab_now ab_far hbq hcq hsq h5 h6 c9 h14 h15 h16 e18 c19 e21 b22 b23 c24 e26 b27 b28 h33 h34 h35 f38 b39 b40 f43)
          have b45 : y41.toInt ≤ 100257 := (lf_x_farBy_22 knowF kfarF bq cq sq k3 k12 y17 y20 y25 k31 y36 y41 ab_now ab_far hbq hcq hsq h5 h6 c9 h14 h15 h16 e18 c19 e21 b22 b23 c24 e26 b27 b28 h33 h34 h35 f38 b39 b40 f43)
          rw [hQ]
          exact W.iret (v := y41) hx hb hr (fun t9 ht9 hW9 => ⟨y41, rfl, (lf_x_farBy_23 knowF kfarF bq cq sq k3 k12 y17 y20 y25 k31 y36 y41 ab_now ab_far hbq hcq hsq h5 h6 c9 h14 h15 h16 e18 c19 e21 b22 b23 c24 e26 b27 b28 h33 h34 h35 f38 b39 b40 f43 b44 b45), ht9⟩) (fun _ h => absurd h List.not_mem_nil) dX12_farBy_70
        · refine lv_ldcw (v := nI 100000) hx hb hown (hts (.constant RX12 315 (nI 100000)) (List.mem_of_getElem? (i := 3) rfl)) dX12_farBy_45 ?_
          refine lv_goto (tgt := 70) hx hb dX12_farBy_48 (by decide) ?_
          rw [hQ]
          exact W.iret (v := nI 100000) hx hb hr (fun t9 ht9 hW9 => ⟨nI 100000, rfl, (lf_x_farBy_24 knowF kfarF bq cq sq k3 k12 y17 y20 ab_now ab_far hbq hcq hsq h5 h6 c9 h14 h15 h16 e18 c19 e21 b22 b23 c24), ht9⟩) (fun _ h => absurd h List.not_mem_nil) dX12_farBy_70
