def spF (x y z x4 x5 x6 : Int32) : Int64 :=
  (fun v3 => if x6 ≤ 0 then v3 else (27 : Int64) * v3 + x6.toInt64 - (96 : Int64)) ((fun v2 => if x5 ≤ 0 then v2 else (27 : Int64) * v2 + x5.toInt64 - (96 : Int64)) ((fun v1 => if x4 ≤ 0 then v1 else (27 : Int64) * v1 + x4.toInt64 - (96 : Int64)) ((fun v0 => if z ≤ 0 then v0 else (27 : Int64) * v0 + z.toInt64 - (96 : Int64)) ((27 : Int64) * (x.toInt64 - (96 : Int64)) + y.toInt64 - (96 : Int64)))))
def WOf (x : Int32) (r : Int64) : Prop := ∀ k, k < 31 → x = nI k → r = Int64.ofNat (cv (WTk k))
theorem wof {x : Int32} {r : Int64} {j : Nat} (hj : j < 31) (hx : x = nI j) (hr : r = Int64.ofNat (cv (WTk j))) : WOf x r := by
  intro k hk e
  rw [hx, ia_eq, ia_n _ (by omega), ia_n _ (by omega)] at e
  have : j = k := by omega
  rw [← this]; exact hr
theorem wof30 {x : Int32} {r : Int64} (hx : x.toInt < 0 ∨ 29 < x.toInt) (hr : r = Int64.ofNat (cv (WTk 30))) : WOf x r := by
  intro k hk e
  rw [e, ia_n _ (by omega)] at hx
  have : k = 30 := by omega
  rw [this]; exact hr
theorem GN_wt (k : Nat) (hk : k < 31) : GN (WTk k) := by
  have a0 : ∀ k, k < 7 → WTk k = WT0.getD k 0 := by decide
  have a1 : ∀ k, k < 13 → WTk (7 + k) = WT1.getD k 0 := by decide
  have a2 : ∀ k, k < 11 → WTk (20 + k) = WT2.getD k 0 := by decide
  by_cases h0 : k < 7
  · obtain ⟨L, hL, h1, _, h3⟩ := txok0 k h0
    exact ⟨_, _, L, hL, h1, by rw [a0 k h0]; exact h3.symm⟩
  by_cases h1 : k < 20
  · obtain ⟨j, rfl⟩ : ∃ j, k = 7 + j := ⟨k - 7, by omega⟩
    obtain ⟨L, hL, h1, _, h3⟩ := txok1 j (show j < 13 by omega)
    exact ⟨_, _, L, hL, h1, by rw [a1 j (by omega)]; exact h3.symm⟩
  · obtain ⟨j, rfl⟩ : ∃ j, k = 20 + j := ⟨k - 20, by omega⟩
    obtain ⟨L, hL, h1, _, h3⟩ := txok2 j (show j < 11 by omega)
    exact ⟨_, _, L, hL, h1, by rw [a2 j (by omega)]; exact h3.symm⟩
section MTs
variable {bt : Nat → Nat} {n m p fr to : Nat} {kind sign num : Int32} {word r : Int64}
theorem MT_k (h : MT bt n m p kind sign fr to num word) {c : Nat} (hc : c ≤ 3) : kind = nI c ↔ tK bt n m p = c := by
  have h1 := tK_le bt n m p
  rcases h.1 with ⟨a, b⟩ | ⟨a, b, _⟩
  · rw [b, ia_eq, ia_n _ (by omega), ia_n _ (by omega)]; omega
  · rw [b, ia_eq, ia_n _ (by omega), ia_n _ (by omega)]; omega
theorem MT_s (h : MT bt n m p kind sign fr to num word) {c : Nat} (hc : 3 < c) (hc2 : c < 1000) : (kind = nI 4 ∧ sign = nI c) ↔ tK bt n m p = c := by
  have h1 := tK_le bt n m p
  rcases h.1 with ⟨a, b⟩ | ⟨a, b, d⟩
  · rw [b, ia_eq, ia_n _ (by omega), ia_n _ (by omega)]; omega
  · rw [b, d, ia_eq (nI _) (nI c), ia_n _ (by omega), ia_n _ (by omega)]
    constructor
    · intro z; omega
    · intro z; exact ⟨rfl, by omega⟩
theorem isW_t (h : MT bt n m p kind sign fr to num word) {k : Nat} (hk : k < 31) (h2 : kind = nI 2) (hr : WOf (nI k) r) (he : word = r) : tW bt n m p = k := by
  have hk2 : tK bt n m p = 2 := (MT_k h (by decide)).mp h2
  have e := h.2.2.2.2 hk2
  rw [he, hr k hk rfl] at e
  have e2 := (N27_eq (GN_wt k hk) (tC_GN hk2)).mp e
  unfold tW
  rw [if_pos hk2]
  exact (wix_iff hk).mp e2.symm
theorem isW_f (h : MT bt n m p kind sign fr to num word) {k : Nat} (hk : k < 31) (hr : WOf (nI k) r) (he : ¬ word = r) : ¬ tW bt n m p = k := by
  intro e
  have hk2 := tW_2 e (by omega)
  unfold tW at e
  rw [if_pos hk2] at e
  have e2 := (wix_iff hk).mpr e
  exact he (by rw [h.2.2.2.2 hk2, hr k hk rfl, e2])
theorem isW_n (h : MT bt n m p kind sign fr to num word) {k : Nat} (hk : k < 99) (h2 : ¬ kind = nI 2) : ¬ tW bt n m p = k := fun e => h2 ((MT_k h (by decide)).mpr (tW_2 e hk))
theorem isNm_t (h : MT bt n m p kind sign fr to num word) (h2 : kind = nI 2) (hn : ∀ j, j < 31 → word ≠ Int64.ofNat (cv (WTk j))) : tW bt n m p = 31 := by
  have hk2 : tK bt n m p = 2 := (MT_k h (by decide)).mp h2
  unfold tW
  rw [if_pos hk2]
  have h3 := wix_le (tC bt n p)
  by_cases h4 : wix (tC bt n p) < 31
  · refine absurd ?_ (hn _ h4)
    rw [h.2.2.2.2 hk2, WTk_wix h4]
  · omega
theorem isNm_f (h : MT bt n m p kind sign fr to num word) {k : Nat} (hk : k < 31) (h2 : kind = nI 2) (he : word = Int64.ofNat (cv (WTk k))) : ¬ tW bt n m p = 31 := by
  have hk2 : tK bt n m p = 2 := (MT_k h (by decide)).mp h2
  have e := h.2.2.2.2 hk2
  rw [he] at e
  have e2 := (N27_eq (GN_wt k hk) (tC_GN hk2)).mp e
  unfold tW
  rw [if_pos hk2, (wix_iff hk).mp e2.symm]
  omega
end MTs
set_option maxRecDepth 20000 in
theorem lf_g_spelt_1 (x : Int32) (y : Int32) (z : Int32) (x4 : Int32) (x5 : Int32) (x6 : Int32) (w1 : Int64) (w3 : Int64) (w5 : Int64) (w7 : Int64) (w9 : Int64) (w11 : Int64) (e2 : w1 = (x).toInt64) (e4 : w3 = w1 - (96 : Int64)) (e6 : w5 = (27 : Int64) * w3) (e8 : w7 = (y).toInt64) (e10 : w9 = w5 + w7) (e12 : w11 = w9 - (96 : Int64)) (c13 : z ≤ 0) (c14 : x4 ≤ 0) (c15 : x5 ≤ 0) (c16 : x6 ≤ 0) : w11 = spF x y z x4 x5 x6 := by
  subst_vars
  unfold spF
  simp only [*, if_true, if_false]
set_option maxRecDepth 20000 in
theorem lf_g_spelt_2 (x : Int32) (y : Int32) (z : Int32) (x4 : Int32) (x5 : Int32) (x6 : Int32) (w1 : Int64) (w3 : Int64) (w5 : Int64) (w7 : Int64) (w9 : Int64) (w11 : Int64) (w17 : Int64) (w19 : Int64) (w21 : Int64) (w23 : Int64) (e2 : w1 = (x).toInt64) (e4 : w3 = w1 - (96 : Int64)) (e6 : w5 = (27 : Int64) * w3) (e8 : w7 = (y).toInt64) (e10 : w9 = w5 + w7) (e12 : w11 = w9 - (96 : Int64)) (c13 : z ≤ 0) (c14 : x4 ≤ 0) (c15 : x5 ≤ 0) (c16 : ¬ x6 ≤ 0) (e18 : w17 = (27 : Int64) * w11) (e20 : w19 = (x6).toInt64) (e22 : w21 = w17 + w19) (e24 : w23 = w21 - (96 : Int64)) : w23 = spF x y z x4 x5 x6 := by
  subst_vars
  unfold spF
  simp only [*, if_true, if_false]
set_option maxRecDepth 20000 in
theorem lf_g_spelt_3 (x : Int32) (y : Int32) (z : Int32) (x4 : Int32) (x5 : Int32) (x6 : Int32) (w1 : Int64) (w3 : Int64) (w5 : Int64) (w7 : Int64) (w9 : Int64) (w11 : Int64) (w25 : Int64) (w27 : Int64) (w29 : Int64) (w31 : Int64) (e2 : w1 = (x).toInt64) (e4 : w3 = w1 - (96 : Int64)) (e6 : w5 = (27 : Int64) * w3) (e8 : w7 = (y).toInt64) (e10 : w9 = w5 + w7) (e12 : w11 = w9 - (96 : Int64)) (c13 : z ≤ 0) (c14 : x4 ≤ 0) (c15 : ¬ x5 ≤ 0) (e26 : w25 = (27 : Int64) * w11) (e28 : w27 = (x5).toInt64) (e30 : w29 = w25 + w27) (e32 : w31 = w29 - (96 : Int64)) (c33 : x6 ≤ 0) : w31 = spF x y z x4 x5 x6 := by
  subst_vars
  unfold spF
  simp only [*, if_true, if_false]
set_option maxRecDepth 20000 in
theorem lf_g_spelt_4 (x : Int32) (y : Int32) (z : Int32) (x4 : Int32) (x5 : Int32) (x6 : Int32) (w1 : Int64) (w3 : Int64) (w5 : Int64) (w7 : Int64) (w9 : Int64) (w11 : Int64) (w25 : Int64) (w27 : Int64) (w29 : Int64) (w31 : Int64) (w34 : Int64) (w36 : Int64) (w38 : Int64) (w40 : Int64) (e2 : w1 = (x).toInt64) (e4 : w3 = w1 - (96 : Int64)) (e6 : w5 = (27 : Int64) * w3) (e8 : w7 = (y).toInt64) (e10 : w9 = w5 + w7) (e12 : w11 = w9 - (96 : Int64)) (c13 : z ≤ 0) (c14 : x4 ≤ 0) (c15 : ¬ x5 ≤ 0) (e26 : w25 = (27 : Int64) * w11) (e28 : w27 = (x5).toInt64) (e30 : w29 = w25 + w27) (e32 : w31 = w29 - (96 : Int64)) (c33 : ¬ x6 ≤ 0) (e35 : w34 = (27 : Int64) * w31) (e37 : w36 = (x6).toInt64) (e39 : w38 = w34 + w36) (e41 : w40 = w38 - (96 : Int64)) : w40 = spF x y z x4 x5 x6 := by
  subst_vars
  unfold spF
  simp only [*, if_true, if_false]
set_option maxRecDepth 20000 in
theorem lf_g_spelt_5 (x : Int32) (y : Int32) (z : Int32) (x4 : Int32) (x5 : Int32) (x6 : Int32) (w1 : Int64) (w3 : Int64) (w5 : Int64) (w7 : Int64) (w9 : Int64) (w11 : Int64) (w42 : Int64) (w44 : Int64) (w46 : Int64) (w48 : Int64) (e2 : w1 = (x).toInt64) (e4 : w3 = w1 - (96 : Int64)) (e6 : w5 = (27 : Int64) * w3) (e8 : w7 = (y).toInt64) (e10 : w9 = w5 + w7) (e12 : w11 = w9 - (96 : Int64)) (c13 : z ≤ 0) (c14 : ¬ x4 ≤ 0) (e43 : w42 = (27 : Int64) * w11) (e45 : w44 = (x4).toInt64) (e47 : w46 = w42 + w44) (e49 : w48 = w46 - (96 : Int64)) (c50 : x5 ≤ 0) (c51 : x6 ≤ 0) : w48 = spF x y z x4 x5 x6 := by
  subst_vars
  unfold spF
  simp only [*, if_true, if_false]
set_option maxRecDepth 20000 in
theorem lf_g_spelt_6 (x : Int32) (y : Int32) (z : Int32) (x4 : Int32) (x5 : Int32) (x6 : Int32) (w1 : Int64) (w3 : Int64) (w5 : Int64) (w7 : Int64) (w9 : Int64) (w11 : Int64) (w42 : Int64) (w44 : Int64) (w46 : Int64) (w48 : Int64) (w52 : Int64) (w54 : Int64) (w56 : Int64) (w58 : Int64) (e2 : w1 = (x).toInt64) (e4 : w3 = w1 - (96 : Int64)) (e6 : w5 = (27 : Int64) * w3) (e8 : w7 = (y).toInt64) (e10 : w9 = w5 + w7) (e12 : w11 = w9 - (96 : Int64)) (c13 : z ≤ 0) (c14 : ¬ x4 ≤ 0) (e43 : w42 = (27 : Int64) * w11) (e45 : w44 = (x4).toInt64) (e47 : w46 = w42 + w44) (e49 : w48 = w46 - (96 : Int64)) (c50 : x5 ≤ 0) (c51 : ¬ x6 ≤ 0) (e53 : w52 = (27 : Int64) * w48) (e55 : w54 = (x6).toInt64) (e57 : w56 = w52 + w54) (e59 : w58 = w56 - (96 : Int64)) : w58 = spF x y z x4 x5 x6 := by
  subst_vars
  unfold spF
  simp only [*, if_true, if_false]
set_option maxRecDepth 20000 in
theorem lf_g_spelt_7 (x : Int32) (y : Int32) (z : Int32) (x4 : Int32) (x5 : Int32) (x6 : Int32) (w1 : Int64) (w3 : Int64) (w5 : Int64) (w7 : Int64) (w9 : Int64) (w11 : Int64) (w42 : Int64) (w44 : Int64) (w46 : Int64) (w48 : Int64) (w60 : Int64) (w62 : Int64) (w64 : Int64) (w66 : Int64) (e2 : w1 = (x).toInt64) (e4 : w3 = w1 - (96 : Int64)) (e6 : w5 = (27 : Int64) * w3) (e8 : w7 = (y).toInt64) (e10 : w9 = w5 + w7) (e12 : w11 = w9 - (96 : Int64)) (c13 : z ≤ 0) (c14 : ¬ x4 ≤ 0) (e43 : w42 = (27 : Int64) * w11) (e45 : w44 = (x4).toInt64) (e47 : w46 = w42 + w44) (e49 : w48 = w46 - (96 : Int64)) (c50 : ¬ x5 ≤ 0) (e61 : w60 = (27 : Int64) * w48) (e63 : w62 = (x5).toInt64) (e65 : w64 = w60 + w62) (e67 : w66 = w64 - (96 : Int64)) (c68 : x6 ≤ 0) : w66 = spF x y z x4 x5 x6 := by
  subst_vars
  unfold spF
  simp only [*, if_true, if_false]
set_option maxRecDepth 20000 in
theorem lf_g_spelt_8 (x : Int32) (y : Int32) (z : Int32) (x4 : Int32) (x5 : Int32) (x6 : Int32) (w1 : Int64) (w3 : Int64) (w5 : Int64) (w7 : Int64) (w9 : Int64) (w11 : Int64) (w42 : Int64) (w44 : Int64) (w46 : Int64) (w48 : Int64) (w60 : Int64) (w62 : Int64) (w64 : Int64) (w66 : Int64) (w69 : Int64) (w71 : Int64) (w73 : Int64) (w75 : Int64) (e2 : w1 = (x).toInt64) (e4 : w3 = w1 - (96 : Int64)) (e6 : w5 = (27 : Int64) * w3) (e8 : w7 = (y).toInt64) (e10 : w9 = w5 + w7) (e12 : w11 = w9 - (96 : Int64)) (c13 : z ≤ 0) (c14 : ¬ x4 ≤ 0) (e43 : w42 = (27 : Int64) * w11) (e45 : w44 = (x4).toInt64) (e47 : w46 = w42 + w44) (e49 : w48 = w46 - (96 : Int64)) (c50 : ¬ x5 ≤ 0) (e61 : w60 = (27 : Int64) * w48) (e63 : w62 = (x5).toInt64) (e65 : w64 = w60 + w62) (e67 : w66 = w64 - (96 : Int64)) (c68 : ¬ x6 ≤ 0) (e70 : w69 = (27 : Int64) * w66) (e72 : w71 = (x6).toInt64) (e74 : w73 = w69 + w71) (e76 : w75 = w73 - (96 : Int64)) : w75 = spF x y z x4 x5 x6 := by
  subst_vars
  unfold spF
  simp only [*, if_true, if_false]
set_option maxRecDepth 20000 in
theorem lf_g_spelt_9 (x : Int32) (y : Int32) (z : Int32) (x4 : Int32) (x5 : Int32) (x6 : Int32) (w1 : Int64) (w3 : Int64) (w5 : Int64) (w7 : Int64) (w9 : Int64) (w11 : Int64) (w77 : Int64) (w79 : Int64) (w81 : Int64) (w83 : Int64) (e2 : w1 = (x).toInt64) (e4 : w3 = w1 - (96 : Int64)) (e6 : w5 = (27 : Int64) * w3) (e8 : w7 = (y).toInt64) (e10 : w9 = w5 + w7) (e12 : w11 = w9 - (96 : Int64)) (c13 : ¬ z ≤ 0) (e78 : w77 = (27 : Int64) * w11) (e80 : w79 = (z).toInt64) (e82 : w81 = w77 + w79) (e84 : w83 = w81 - (96 : Int64)) (c85 : x4 ≤ 0) (c86 : x5 ≤ 0) (c87 : x6 ≤ 0) : w83 = spF x y z x4 x5 x6 := by
  subst_vars
  unfold spF
  simp only [*, if_true, if_false]
set_option maxRecDepth 20000 in
theorem lf_g_spelt_10 (x : Int32) (y : Int32) (z : Int32) (x4 : Int32) (x5 : Int32) (x6 : Int32) (w1 : Int64) (w3 : Int64) (w5 : Int64) (w7 : Int64) (w9 : Int64) (w11 : Int64) (w77 : Int64) (w79 : Int64) (w81 : Int64) (w83 : Int64) (w88 : Int64) (w90 : Int64) (w92 : Int64) (w94 : Int64) (e2 : w1 = (x).toInt64) (e4 : w3 = w1 - (96 : Int64)) (e6 : w5 = (27 : Int64) * w3) (e8 : w7 = (y).toInt64) (e10 : w9 = w5 + w7) (e12 : w11 = w9 - (96 : Int64)) (c13 : ¬ z ≤ 0) (e78 : w77 = (27 : Int64) * w11) (e80 : w79 = (z).toInt64) (e82 : w81 = w77 + w79) (e84 : w83 = w81 - (96 : Int64)) (c85 : x4 ≤ 0) (c86 : x5 ≤ 0) (c87 : ¬ x6 ≤ 0) (e89 : w88 = (27 : Int64) * w83) (e91 : w90 = (x6).toInt64) (e93 : w92 = w88 + w90) (e95 : w94 = w92 - (96 : Int64)) : w94 = spF x y z x4 x5 x6 := by
  subst_vars
  unfold spF
  simp only [*, if_true, if_false]
set_option maxRecDepth 20000 in
theorem lf_g_spelt_11 (x : Int32) (y : Int32) (z : Int32) (x4 : Int32) (x5 : Int32) (x6 : Int32) (w1 : Int64) (w3 : Int64) (w5 : Int64) (w7 : Int64) (w9 : Int64) (w11 : Int64) (w77 : Int64) (w79 : Int64) (w81 : Int64) (w83 : Int64) (w96 : Int64) (w98 : Int64) (w100 : Int64) (w102 : Int64) (e2 : w1 = (x).toInt64) (e4 : w3 = w1 - (96 : Int64)) (e6 : w5 = (27 : Int64) * w3) (e8 : w7 = (y).toInt64) (e10 : w9 = w5 + w7) (e12 : w11 = w9 - (96 : Int64)) (c13 : ¬ z ≤ 0) (e78 : w77 = (27 : Int64) * w11) (e80 : w79 = (z).toInt64) (e82 : w81 = w77 + w79) (e84 : w83 = w81 - (96 : Int64)) (c85 : x4 ≤ 0) (c86 : ¬ x5 ≤ 0) (e97 : w96 = (27 : Int64) * w83) (e99 : w98 = (x5).toInt64) (e101 : w100 = w96 + w98) (e103 : w102 = w100 - (96 : Int64)) (c104 : x6 ≤ 0) : w102 = spF x y z x4 x5 x6 := by
  subst_vars
  unfold spF
  simp only [*, if_true, if_false]
set_option maxRecDepth 20000 in
theorem lf_g_spelt_12 (x : Int32) (y : Int32) (z : Int32) (x4 : Int32) (x5 : Int32) (x6 : Int32) (w1 : Int64) (w3 : Int64) (w5 : Int64) (w7 : Int64) (w9 : Int64) (w11 : Int64) (w77 : Int64) (w79 : Int64) (w81 : Int64) (w83 : Int64) (w96 : Int64) (w98 : Int64) (w100 : Int64) (w102 : Int64) (w105 : Int64) (w107 : Int64) (w109 : Int64) (w111 : Int64) (e2 : w1 = (x).toInt64) (e4 : w3 = w1 - (96 : Int64)) (e6 : w5 = (27 : Int64) * w3) (e8 : w7 = (y).toInt64) (e10 : w9 = w5 + w7) (e12 : w11 = w9 - (96 : Int64)) (c13 : ¬ z ≤ 0) (e78 : w77 = (27 : Int64) * w11) (e80 : w79 = (z).toInt64) (e82 : w81 = w77 + w79) (e84 : w83 = w81 - (96 : Int64)) (c85 : x4 ≤ 0) (c86 : ¬ x5 ≤ 0) (e97 : w96 = (27 : Int64) * w83) (e99 : w98 = (x5).toInt64) (e101 : w100 = w96 + w98) (e103 : w102 = w100 - (96 : Int64)) (c104 : ¬ x6 ≤ 0) (e106 : w105 = (27 : Int64) * w102) (e108 : w107 = (x6).toInt64) (e110 : w109 = w105 + w107) (e112 : w111 = w109 - (96 : Int64)) : w111 = spF x y z x4 x5 x6 := by
  subst_vars
  unfold spF
  simp only [*, if_true, if_false]
set_option maxRecDepth 20000 in
theorem lf_g_spelt_13 (x : Int32) (y : Int32) (z : Int32) (x4 : Int32) (x5 : Int32) (x6 : Int32) (w1 : Int64) (w3 : Int64) (w5 : Int64) (w7 : Int64) (w9 : Int64) (w11 : Int64) (w77 : Int64) (w79 : Int64) (w81 : Int64) (w83 : Int64) (w113 : Int64) (w115 : Int64) (w117 : Int64) (w119 : Int64) (e2 : w1 = (x).toInt64) (e4 : w3 = w1 - (96 : Int64)) (e6 : w5 = (27 : Int64) * w3) (e8 : w7 = (y).toInt64) (e10 : w9 = w5 + w7) (e12 : w11 = w9 - (96 : Int64)) (c13 : ¬ z ≤ 0) (e78 : w77 = (27 : Int64) * w11) (e80 : w79 = (z).toInt64) (e82 : w81 = w77 + w79) (e84 : w83 = w81 - (96 : Int64)) (c85 : ¬ x4 ≤ 0) (e114 : w113 = (27 : Int64) * w83) (e116 : w115 = (x4).toInt64) (e118 : w117 = w113 + w115) (e120 : w119 = w117 - (96 : Int64)) (c121 : x5 ≤ 0) (c122 : x6 ≤ 0) : w119 = spF x y z x4 x5 x6 := by
  subst_vars
  unfold spF
  simp only [*, if_true, if_false]
set_option maxRecDepth 20000 in
theorem lf_g_spelt_14 (x : Int32) (y : Int32) (z : Int32) (x4 : Int32) (x5 : Int32) (x6 : Int32) (w1 : Int64) (w3 : Int64) (w5 : Int64) (w7 : Int64) (w9 : Int64) (w11 : Int64) (w77 : Int64) (w79 : Int64) (w81 : Int64) (w83 : Int64) (w113 : Int64) (w115 : Int64) (w117 : Int64) (w119 : Int64) (w123 : Int64) (w125 : Int64) (w127 : Int64) (w129 : Int64) (e2 : w1 = (x).toInt64) (e4 : w3 = w1 - (96 : Int64)) (e6 : w5 = (27 : Int64) * w3) (e8 : w7 = (y).toInt64) (e10 : w9 = w5 + w7) (e12 : w11 = w9 - (96 : Int64)) (c13 : ¬ z ≤ 0) (e78 : w77 = (27 : Int64) * w11) (e80 : w79 = (z).toInt64) (e82 : w81 = w77 + w79) (e84 : w83 = w81 - (96 : Int64)) (c85 : ¬ x4 ≤ 0) (e114 : w113 = (27 : Int64) * w83) (e116 : w115 = (x4).toInt64) (e118 : w117 = w113 + w115) (e120 : w119 = w117 - (96 : Int64)) (c121 : x5 ≤ 0) (c122 : ¬ x6 ≤ 0) (e124 : w123 = (27 : Int64) * w119) (e126 : w125 = (x6).toInt64) (e128 : w127 = w123 + w125) (e130 : w129 = w127 - (96 : Int64)) : w129 = spF x y z x4 x5 x6 := by
  subst_vars
  unfold spF
  simp only [*, if_true, if_false]
set_option maxRecDepth 20000 in
theorem lf_g_spelt_15 (x : Int32) (y : Int32) (z : Int32) (x4 : Int32) (x5 : Int32) (x6 : Int32) (w1 : Int64) (w3 : Int64) (w5 : Int64) (w7 : Int64) (w9 : Int64) (w11 : Int64) (w77 : Int64) (w79 : Int64) (w81 : Int64) (w83 : Int64) (w113 : Int64) (w115 : Int64) (w117 : Int64) (w119 : Int64) (w131 : Int64) (w133 : Int64) (w135 : Int64) (w137 : Int64) (e2 : w1 = (x).toInt64) (e4 : w3 = w1 - (96 : Int64)) (e6 : w5 = (27 : Int64) * w3) (e8 : w7 = (y).toInt64) (e10 : w9 = w5 + w7) (e12 : w11 = w9 - (96 : Int64)) (c13 : ¬ z ≤ 0) (e78 : w77 = (27 : Int64) * w11) (e80 : w79 = (z).toInt64) (e82 : w81 = w77 + w79) (e84 : w83 = w81 - (96 : Int64)) (c85 : ¬ x4 ≤ 0) (e114 : w113 = (27 : Int64) * w83) (e116 : w115 = (x4).toInt64) (e118 : w117 = w113 + w115) (e120 : w119 = w117 - (96 : Int64)) (c121 : ¬ x5 ≤ 0) (e132 : w131 = (27 : Int64) * w119) (e134 : w133 = (x5).toInt64) (e136 : w135 = w131 + w133) (e138 : w137 = w135 - (96 : Int64)) (c139 : x6 ≤ 0) : w137 = spF x y z x4 x5 x6 := by
  subst_vars
  unfold spF
  simp only [*, if_true, if_false]
set_option maxRecDepth 20000 in
theorem lf_g_spelt_16 (x : Int32) (y : Int32) (z : Int32) (x4 : Int32) (x5 : Int32) (x6 : Int32) (w1 : Int64) (w3 : Int64) (w5 : Int64) (w7 : Int64) (w9 : Int64) (w11 : Int64) (w77 : Int64) (w79 : Int64) (w81 : Int64) (w83 : Int64) (w113 : Int64) (w115 : Int64) (w117 : Int64) (w119 : Int64) (w131 : Int64) (w133 : Int64) (w135 : Int64) (w137 : Int64) (w140 : Int64) (w142 : Int64) (w144 : Int64) (w146 : Int64) (e2 : w1 = (x).toInt64) (e4 : w3 = w1 - (96 : Int64)) (e6 : w5 = (27 : Int64) * w3) (e8 : w7 = (y).toInt64) (e10 : w9 = w5 + w7) (e12 : w11 = w9 - (96 : Int64)) (c13 : ¬ z ≤ 0) (e78 : w77 = (27 : Int64) * w11) (e80 : w79 = (z).toInt64) (e82 : w81 = w77 + w79) (e84 : w83 = w81 - (96 : Int64)) (c85 : ¬ x4 ≤ 0) (e114 : w113 = (27 : Int64) * w83) (e116 : w115 = (x4).toInt64) (e118 : w117 = w113 + w115) (e120 : w119 = w117 - (96 : Int64)) (c121 : ¬ x5 ≤ 0) (e132 : w131 = (27 : Int64) * w119) (e134 : w133 = (x5).toInt64) (e136 : w135 = w131 + w133) (e138 : w137 = w135 - (96 : Int64)) (c139 : ¬ x6 ≤ 0) (e141 : w140 = (27 : Int64) * w137) (e143 : w142 = (x6).toInt64) (e145 : w144 = w140 + w142) (e147 : w146 = w144 - (96 : Int64)) : w146 = spF x y z x4 x5 x6 := by
  subst_vars
  unfold spF
  simp only [*, if_true, if_false]
set_option maxHeartbeats 4000000 in
set_option maxRecDepth 100000 in
theorem c_g_spelt (l : Launch) (dC : Nat → ClassId) (dI : Nat → Nat → Nat) (ky : Nat → ClassId) (sz : Nat) (x : Int32) (y : Int32) (z : Int32) (x4 : Int32) (x5 : Int32) (x6 : Int32)  : Met l yX12_spelt wsX12_spelt ({ frames := 0, cells := 0, slots := 0, locals := 0 }) (PcU dC dI ky [.int x, .int y, .int z, .int x4, .int x5, .int x6] [] sz) (va_Ql (fun (r : Int64) (_ : Unit) => r = spF x y z x4 x5 x6) (BU dC dI ky (fun (_ : Unit) => []) (va_A [] sz)) (va_A [] sz)) 0 0 (va_A [] sz) := by
  refine Met.ofW (cc := cX12_spelt) (maxL := 8) (ret := (some .long)) (by decide) rfl ?_
  intro p e s m args below meth c s₁ B hml hv
  obtain ⟨rfl, hsz, hP, hK, hD0⟩ := hv
  have hx := B.exec
  have hb := B.bytes
  have hr := B.returns
  have hts := atoms_spec (ws := wsX12_spelt) B.pre
  have hown : s.vm.findClass RX12 = some m.cls := findClass_of_methodNamed B.named
  have hlocks := B.notSynchronized
  subst hsz
  have hD := hD0.self (sz := s.heap.size)
  generalize hAe : va_A [] s.heap.size = A at hD ⊢
  have hA : ∀ q : Nat, s.heap.size ≤ q → A q := fun q h => by rw [← hAe]; exact Or.inr h
  have hS : va_S A s.heap s.heap [] := va_S.rf
  have hl := lv_entry ([.int x, .int y, .int z, .int x4, .int x5, .int x6]) (n := 8) (Nat.le_of_ble_eq_true rfl)
  rw [lg_entry_eq]
  generalize (lg_sl ([.int x, .int y, .int z, .int x4, .int x5, .int x6]) ++ List.replicate (8 - (lg_sl ([.int x, .int y, .int z, .int x4, .int x5, .int x6])).length) Slot.unset).toArray = ls at hl ⊢
  have hl : lv_has ls 8 [(0, .int x), (1, .int y), (2, .int z), (3, .int x4), (4, .int x5), (5, .int x6)] := hl
  refine q_name (fun Q hQ => ?_)
  generalize ([.int x, .int y, .int z, .int x4, .int x5, .int x6] : List Value).toArray = args at hts hQ ⊢
  refine lv_ldc2 (v := 27) hx hb hown (hts _ (List.mem_of_getElem? (i := 1) rfl)) dX12_spelt_0 ?_
  refine lv_iload_n hx hb dX12_spelt_3 rfl (lv_at hl 0 rfl) ?_
  obtain ⟨w1, e2⟩ : ∃ z9 : Int64, z9 = (x).toInt64 := ⟨_, rfl⟩
  refine lv_i2l (v := w1) hx hb dX12_spelt_4 e2.symm ?_
  refine lv_ldc2 (v := 96) hx hb hown (hts _ (List.mem_of_getElem? (i := 2) rfl)) dX12_spelt_5 ?_
  refine lv_lsub hx hb dX12_spelt_8 ?_
  refine lv_topl (fun w3 e4 => ?_)
  refine lv_lmul hx hb dX12_spelt_9 ?_
  refine lv_topl (fun w5 e6 => ?_)
  refine lv_iload_n hx hb dX12_spelt_10 rfl (lv_at hl 1 rfl) ?_
  obtain ⟨w7, e8⟩ : ∃ z9 : Int64, z9 = (y).toInt64 := ⟨_, rfl⟩
  refine lv_i2l (v := w7) hx hb dX12_spelt_11 e8.symm ?_
  refine lv_ladd hx hb dX12_spelt_12 ?_
  refine lv_topl (fun w9 e10 => ?_)
  refine lv_ldc2 (v := 96) hx hb hown (hts _ (List.mem_of_getElem? (i := 2) rfl)) dX12_spelt_13 ?_
  refine lv_lsub hx hb dX12_spelt_16 ?_
  refine lv_topl (fun w11 e12 => ?_)
  refine lv_lstore (lv' := [(6, .long w11), (0, .int x), (1, .int y), (2, .int z), (3, .int x4), (4, .int x5), (5, .int x6)]) hx hb dX12_spelt_17 hl (by decide) rfl (fun ls hl => ?_)
  refine lv_iload_n hx hb dX12_spelt_19 rfl (lv_at hl 3 rfl) ?_
  refine lv_if_le (tgt := 38) hx hb dX12_spelt_20 (by decide) (fun c13 => ?_) (fun c13 => ?_)
  · refine lv_iload_n hx hb dX12_spelt_38 rfl (lv_at hl 4 rfl) ?_
    refine lv_if_le (tgt := 57) hx hb dX12_spelt_39 (by decide) (fun c14 => ?_) (fun c14 => ?_)
    · refine lv_iload hx hb dX12_spelt_57 (lv_at hl 5 rfl) ?_
      refine lv_if_le (tgt := 78) hx hb dX12_spelt_59 (by decide) (fun c15 => ?_) (fun c15 => ?_)
      · refine lv_iload hx hb dX12_spelt_78 (lv_at hl 6 rfl) ?_
        refine lv_if_le (tgt := 99) hx hb dX12_spelt_80 (by decide) (fun c16 => ?_) (fun c16 => ?_)
        · refine lv_lload hx hb dX12_spelt_99 (lv_at hl 0 rfl) ?_
          rw [hQ]
          exact W.lret (v := w11) hx hb hr (fun t9 ht9 hW9 => ⟨⟨w11, (), rfl, (lf_g_spelt_1 x y z x4 x5 x6 w1 w3 w5 w7 w9 w11 e2 e4 e6 e8 e10 e12 c13 c14 c15 c16), by rw [ht9]; exact hP, va_K.moved hW9.alike hK, hD⟩, hS.F ht9⟩) hS.2.2 dX12_spelt_101
        · refine lv_ldc2 (v := 27) hx hb hown (hts _ (List.mem_of_getElem? (i := 1) rfl)) dX12_spelt_83 ?_
          refine lv_lload hx hb dX12_spelt_86 (lv_at hl 0 rfl) ?_
          refine lv_lmul hx hb dX12_spelt_88 ?_
          refine lv_topl (fun w17 e18 => ?_)
          refine lv_iload hx hb dX12_spelt_89 (lv_at hl 6 rfl) ?_
          obtain ⟨w19, e20⟩ : ∃ z9 : Int64, z9 = (x6).toInt64 := ⟨_, rfl⟩
          refine lv_i2l (v := w19) hx hb dX12_spelt_91 e20.symm ?_
          refine lv_ladd hx hb dX12_spelt_92 ?_
          refine lv_topl (fun w21 e22 => ?_)
          refine lv_ldc2 (v := 96) hx hb hown (hts _ (List.mem_of_getElem? (i := 2) rfl)) dX12_spelt_93 ?_
          refine lv_lsub hx hb dX12_spelt_96 ?_
          refine lv_topl (fun w23 e24 => ?_)
          refine lv_lstore (lv' := [(6, .long w23), (0, .int x), (1, .int y), (2, .int z), (3, .int x4), (4, .int x5), (5, .int x6)]) hx hb dX12_spelt_97 hl (by decide) rfl (fun ls hl => ?_)
          refine lv_lload hx hb dX12_spelt_99 (lv_at hl 0 rfl) ?_
          rw [hQ]
          exact W.lret (v := w23) hx hb hr (fun t9 ht9 hW9 => ⟨⟨w23, (), rfl, (lf_g_spelt_2 x y z x4 x5 x6 w1 w3 w5 w7 w9 w11 w17 w19 w21 w23 e2 e4 e6 e8 e10 e12 c13 c14 c15 c16 e18 e20 e22 e24), by rw [ht9]; exact hP, va_K.moved hW9.alike hK, hD⟩, hS.F ht9⟩) hS.2.2 dX12_spelt_101
      · refine lv_ldc2 (v := 27) hx hb hown (hts _ (List.mem_of_getElem? (i := 1) rfl)) dX12_spelt_62 ?_
        refine lv_lload hx hb dX12_spelt_65 (lv_at hl 0 rfl) ?_
        refine lv_lmul hx hb dX12_spelt_67 ?_
        refine lv_topl (fun w25 e26 => ?_)
        refine lv_iload hx hb dX12_spelt_68 (lv_at hl 5 rfl) ?_
        obtain ⟨w27, e28⟩ : ∃ z9 : Int64, z9 = (x5).toInt64 := ⟨_, rfl⟩
        refine lv_i2l (v := w27) hx hb dX12_spelt_70 e28.symm ?_
        refine lv_ladd hx hb dX12_spelt_71 ?_
        refine lv_topl (fun w29 e30 => ?_)
        refine lv_ldc2 (v := 96) hx hb hown (hts _ (List.mem_of_getElem? (i := 2) rfl)) dX12_spelt_72 ?_
        refine lv_lsub hx hb dX12_spelt_75 ?_
        refine lv_topl (fun w31 e32 => ?_)
        refine lv_lstore (lv' := [(6, .long w31), (0, .int x), (1, .int y), (2, .int z), (3, .int x4), (4, .int x5), (5, .int x6)]) hx hb dX12_spelt_76 hl (by decide) rfl (fun ls hl => ?_)
        refine lv_iload hx hb dX12_spelt_78 (lv_at hl 6 rfl) ?_
        refine lv_if_le (tgt := 99) hx hb dX12_spelt_80 (by decide) (fun c33 => ?_) (fun c33 => ?_)
        · refine lv_lload hx hb dX12_spelt_99 (lv_at hl 0 rfl) ?_
          rw [hQ]
          exact W.lret (v := w31) hx hb hr (fun t9 ht9 hW9 => ⟨⟨w31, (), rfl, (lf_g_spelt_3 x y z x4 x5 x6 w1 w3 w5 w7 w9 w11 w25 w27 w29 w31 e2 e4 e6 e8 e10 e12 c13 c14 c15 e26 e28 e30 e32 c33), by rw [ht9]; exact hP, va_K.moved hW9.alike hK, hD⟩, hS.F ht9⟩) hS.2.2 dX12_spelt_101
        · refine lv_ldc2 (v := 27) hx hb hown (hts _ (List.mem_of_getElem? (i := 1) rfl)) dX12_spelt_83 ?_
          refine lv_lload hx hb dX12_spelt_86 (lv_at hl 0 rfl) ?_
          refine lv_lmul hx hb dX12_spelt_88 ?_
          refine lv_topl (fun w34 e35 => ?_)
          refine lv_iload hx hb dX12_spelt_89 (lv_at hl 6 rfl) ?_
          obtain ⟨w36, e37⟩ : ∃ z9 : Int64, z9 = (x6).toInt64 := ⟨_, rfl⟩
          refine lv_i2l (v := w36) hx hb dX12_spelt_91 e37.symm ?_
          refine lv_ladd hx hb dX12_spelt_92 ?_
          refine lv_topl (fun w38 e39 => ?_)
          refine lv_ldc2 (v := 96) hx hb hown (hts _ (List.mem_of_getElem? (i := 2) rfl)) dX12_spelt_93 ?_
          refine lv_lsub hx hb dX12_spelt_96 ?_
          refine lv_topl (fun w40 e41 => ?_)
          refine lv_lstore (lv' := [(6, .long w40), (0, .int x), (1, .int y), (2, .int z), (3, .int x4), (4, .int x5), (5, .int x6)]) hx hb dX12_spelt_97 hl (by decide) rfl (fun ls hl => ?_)
          refine lv_lload hx hb dX12_spelt_99 (lv_at hl 0 rfl) ?_
          rw [hQ]
          exact W.lret (v := w40) hx hb hr (fun t9 ht9 hW9 => ⟨⟨w40, (), rfl, (lf_g_spelt_4 x y z x4 x5 x6 w1 w3 w5 w7 w9 w11 w25 w27 w29 w31 w34 w36 w38 w40 e2 e4 e6 e8 e10 e12 c13 c14 c15 e26 e28 e30 e32 c33 e35 e37 e39 e41), by rw [ht9]; exact hP, va_K.moved hW9.alike hK, hD⟩, hS.F ht9⟩) hS.2.2 dX12_spelt_101
    · refine lv_ldc2 (v := 27) hx hb hown (hts _ (List.mem_of_getElem? (i := 1) rfl)) dX12_spelt_42 ?_
      refine lv_lload hx hb dX12_spelt_45 (lv_at hl 0 rfl) ?_
      refine lv_lmul hx hb dX12_spelt_47 ?_
      refine lv_topl (fun w42 e43 => ?_)
      refine lv_iload_n hx hb dX12_spelt_48 rfl (lv_at hl 4 rfl) ?_
      obtain ⟨w44, e45⟩ : ∃ z9 : Int64, z9 = (x4).toInt64 := ⟨_, rfl⟩
      refine lv_i2l (v := w44) hx hb dX12_spelt_49 e45.symm ?_
      refine lv_ladd hx hb dX12_spelt_50 ?_
      refine lv_topl (fun w46 e47 => ?_)
      refine lv_ldc2 (v := 96) hx hb hown (hts _ (List.mem_of_getElem? (i := 2) rfl)) dX12_spelt_51 ?_
      refine lv_lsub hx hb dX12_spelt_54 ?_
      refine lv_topl (fun w48 e49 => ?_)
      refine lv_lstore (lv' := [(6, .long w48), (0, .int x), (1, .int y), (2, .int z), (3, .int x4), (4, .int x5), (5, .int x6)]) hx hb dX12_spelt_55 hl (by decide) rfl (fun ls hl => ?_)
      refine lv_iload hx hb dX12_spelt_57 (lv_at hl 5 rfl) ?_
      refine lv_if_le (tgt := 78) hx hb dX12_spelt_59 (by decide) (fun c50 => ?_) (fun c50 => ?_)
      · refine lv_iload hx hb dX12_spelt_78 (lv_at hl 6 rfl) ?_
        refine lv_if_le (tgt := 99) hx hb dX12_spelt_80 (by decide) (fun c51 => ?_) (fun c51 => ?_)
        · refine lv_lload hx hb dX12_spelt_99 (lv_at hl 0 rfl) ?_
          rw [hQ]
          exact W.lret (v := w48) hx hb hr (fun t9 ht9 hW9 => ⟨⟨w48, (), rfl, (lf_g_spelt_5 x y z x4 x5 x6 w1 w3 w5 w7 w9 w11 w42 w44 w46 w48 e2 e4 e6 e8 e10 e12 c13 c14 e43 e45 e47 e49 c50 c51), by rw [ht9]; exact hP, va_K.moved hW9.alike hK, hD⟩, hS.F ht9⟩) hS.2.2 dX12_spelt_101
        · refine lv_ldc2 (v := 27) hx hb hown (hts _ (List.mem_of_getElem? (i := 1) rfl)) dX12_spelt_83 ?_
          refine lv_lload hx hb dX12_spelt_86 (lv_at hl 0 rfl) ?_
          refine lv_lmul hx hb dX12_spelt_88 ?_
          refine lv_topl (fun w52 e53 => ?_)
          refine lv_iload hx hb dX12_spelt_89 (lv_at hl 6 rfl) ?_
          obtain ⟨w54, e55⟩ : ∃ z9 : Int64, z9 = (x6).toInt64 := ⟨_, rfl⟩
          refine lv_i2l (v := w54) hx hb dX12_spelt_91 e55.symm ?_
          refine lv_ladd hx hb dX12_spelt_92 ?_
          refine lv_topl (fun w56 e57 => ?_)
          refine lv_ldc2 (v := 96) hx hb hown (hts _ (List.mem_of_getElem? (i := 2) rfl)) dX12_spelt_93 ?_
          refine lv_lsub hx hb dX12_spelt_96 ?_
          refine lv_topl (fun w58 e59 => ?_)
          refine lv_lstore (lv' := [(6, .long w58), (0, .int x), (1, .int y), (2, .int z), (3, .int x4), (4, .int x5), (5, .int x6)]) hx hb dX12_spelt_97 hl (by decide) rfl (fun ls hl => ?_)
          refine lv_lload hx hb dX12_spelt_99 (lv_at hl 0 rfl) ?_
          rw [hQ]
          exact W.lret (v := w58) hx hb hr (fun t9 ht9 hW9 => ⟨⟨w58, (), rfl, (lf_g_spelt_6 x y z x4 x5 x6 w1 w3 w5 w7 w9 w11 w42 w44 w46 w48 w52 w54 w56 w58 e2 e4 e6 e8 e10 e12 c13 c14 e43 e45 e47 e49 c50 c51 e53 e55 e57 e59), by rw [ht9]; exact hP, va_K.moved hW9.alike hK, hD⟩, hS.F ht9⟩) hS.2.2 dX12_spelt_101
      · refine lv_ldc2 (v := 27) hx hb hown (hts _ (List.mem_of_getElem? (i := 1) rfl)) dX12_spelt_62 ?_
        refine lv_lload hx hb dX12_spelt_65 (lv_at hl 0 rfl) ?_
        refine lv_lmul hx hb dX12_spelt_67 ?_
        refine lv_topl (fun w60 e61 => ?_)
        refine lv_iload hx hb dX12_spelt_68 (lv_at hl 5 rfl) ?_
        obtain ⟨w62, e63⟩ : ∃ z9 : Int64, z9 = (x5).toInt64 := ⟨_, rfl⟩
        refine lv_i2l (v := w62) hx hb dX12_spelt_70 e63.symm ?_
        refine lv_ladd hx hb dX12_spelt_71 ?_
        refine lv_topl (fun w64 e65 => ?_)
        refine lv_ldc2 (v := 96) hx hb hown (hts _ (List.mem_of_getElem? (i := 2) rfl)) dX12_spelt_72 ?_
        refine lv_lsub hx hb dX12_spelt_75 ?_
        refine lv_topl (fun w66 e67 => ?_)
        refine lv_lstore (lv' := [(6, .long w66), (0, .int x), (1, .int y), (2, .int z), (3, .int x4), (4, .int x5), (5, .int x6)]) hx hb dX12_spelt_76 hl (by decide) rfl (fun ls hl => ?_)
        refine lv_iload hx hb dX12_spelt_78 (lv_at hl 6 rfl) ?_
        refine lv_if_le (tgt := 99) hx hb dX12_spelt_80 (by decide) (fun c68 => ?_) (fun c68 => ?_)
        · refine lv_lload hx hb dX12_spelt_99 (lv_at hl 0 rfl) ?_
          rw [hQ]
          exact W.lret (v := w66) hx hb hr (fun t9 ht9 hW9 => ⟨⟨w66, (), rfl, (lf_g_spelt_7 x y z x4 x5 x6 w1 w3 w5 w7 w9 w11 w42 w44 w46 w48 w60 w62 w64 w66 e2 e4 e6 e8 e10 e12 c13 c14 e43 e45 e47 e49 c50 e61 e63 e65 e67 c68), by rw [ht9]; exact hP, va_K.moved hW9.alike hK, hD⟩, hS.F ht9⟩) hS.2.2 dX12_spelt_101
        · refine lv_ldc2 (v := 27) hx hb hown (hts _ (List.mem_of_getElem? (i := 1) rfl)) dX12_spelt_83 ?_
          refine lv_lload hx hb dX12_spelt_86 (lv_at hl 0 rfl) ?_
          refine lv_lmul hx hb dX12_spelt_88 ?_
          refine lv_topl (fun w69 e70 => ?_)
          refine lv_iload hx hb dX12_spelt_89 (lv_at hl 6 rfl) ?_
          obtain ⟨w71, e72⟩ : ∃ z9 : Int64, z9 = (x6).toInt64 := ⟨_, rfl⟩
          refine lv_i2l (v := w71) hx hb dX12_spelt_91 e72.symm ?_
          refine lv_ladd hx hb dX12_spelt_92 ?_
          refine lv_topl (fun w73 e74 => ?_)
          refine lv_ldc2 (v := 96) hx hb hown (hts _ (List.mem_of_getElem? (i := 2) rfl)) dX12_spelt_93 ?_
          refine lv_lsub hx hb dX12_spelt_96 ?_
          refine lv_topl (fun w75 e76 => ?_)
          refine lv_lstore (lv' := [(6, .long w75), (0, .int x), (1, .int y), (2, .int z), (3, .int x4), (4, .int x5), (5, .int x6)]) hx hb dX12_spelt_97 hl (by decide) rfl (fun ls hl => ?_)
          refine lv_lload hx hb dX12_spelt_99 (lv_at hl 0 rfl) ?_
          rw [hQ]
          exact W.lret (v := w75) hx hb hr (fun t9 ht9 hW9 => ⟨⟨w75, (), rfl, (lf_g_spelt_8 x y z x4 x5 x6 w1 w3 w5 w7 w9 w11 w42 w44 w46 w48 w60 w62 w64 w66 w69 w71 w73 w75 e2 e4 e6 e8 e10 e12 c13 c14 e43 e45 e47 e49 c50 e61 e63 e65 e67 c68 e70 e72 e74 e76), by rw [ht9]; exact hP, va_K.moved hW9.alike hK, hD⟩, hS.F ht9⟩) hS.2.2 dX12_spelt_101
  · refine lv_ldc2 (v := 27) hx hb hown (hts _ (List.mem_of_getElem? (i := 1) rfl)) dX12_spelt_23 ?_
    refine lv_lload hx hb dX12_spelt_26 (lv_at hl 0 rfl) ?_
    refine lv_lmul hx hb dX12_spelt_28 ?_
    refine lv_topl (fun w77 e78 => ?_)
    refine lv_iload_n hx hb dX12_spelt_29 rfl (lv_at hl 3 rfl) ?_
    obtain ⟨w79, e80⟩ : ∃ z9 : Int64, z9 = (z).toInt64 := ⟨_, rfl⟩
    refine lv_i2l (v := w79) hx hb dX12_spelt_30 e80.symm ?_
    refine lv_ladd hx hb dX12_spelt_31 ?_
    refine lv_topl (fun w81 e82 => ?_)
    refine lv_ldc2 (v := 96) hx hb hown (hts _ (List.mem_of_getElem? (i := 2) rfl)) dX12_spelt_32 ?_
    refine lv_lsub hx hb dX12_spelt_35 ?_
    refine lv_topl (fun w83 e84 => ?_)
    refine lv_lstore (lv' := [(6, .long w83), (0, .int x), (1, .int y), (2, .int z), (3, .int x4), (4, .int x5), (5, .int x6)]) hx hb dX12_spelt_36 hl (by decide) rfl (fun ls hl => ?_)
    refine lv_iload_n hx hb dX12_spelt_38 rfl (lv_at hl 4 rfl) ?_
    refine lv_if_le (tgt := 57) hx hb dX12_spelt_39 (by decide) (fun c85 => ?_) (fun c85 => ?_)
    · refine lv_iload hx hb dX12_spelt_57 (lv_at hl 5 rfl) ?_
      refine lv_if_le (tgt := 78) hx hb dX12_spelt_59 (by decide) (fun c86 => ?_) (fun c86 => ?_)
      · refine lv_iload hx hb dX12_spelt_78 (lv_at hl 6 rfl) ?_
        refine lv_if_le (tgt := 99) hx hb dX12_spelt_80 (by decide) (fun c87 => ?_) (fun c87 => ?_)
        · refine lv_lload hx hb dX12_spelt_99 (lv_at hl 0 rfl) ?_
          rw [hQ]
          exact W.lret (v := w83) hx hb hr (fun t9 ht9 hW9 => ⟨⟨w83, (), rfl, (lf_g_spelt_9 x y z x4 x5 x6 w1 w3 w5 w7 w9 w11 w77 w79 w81 w83 e2 e4 e6 e8 e10 e12 c13 e78 e80 e82 e84 c85 c86 c87), by rw [ht9]; exact hP, va_K.moved hW9.alike hK, hD⟩, hS.F ht9⟩) hS.2.2 dX12_spelt_101
        · refine lv_ldc2 (v := 27) hx hb hown (hts _ (List.mem_of_getElem? (i := 1) rfl)) dX12_spelt_83 ?_
          refine lv_lload hx hb dX12_spelt_86 (lv_at hl 0 rfl) ?_
          refine lv_lmul hx hb dX12_spelt_88 ?_
          refine lv_topl (fun w88 e89 => ?_)
          refine lv_iload hx hb dX12_spelt_89 (lv_at hl 6 rfl) ?_
          obtain ⟨w90, e91⟩ : ∃ z9 : Int64, z9 = (x6).toInt64 := ⟨_, rfl⟩
          refine lv_i2l (v := w90) hx hb dX12_spelt_91 e91.symm ?_
          refine lv_ladd hx hb dX12_spelt_92 ?_
          refine lv_topl (fun w92 e93 => ?_)
          refine lv_ldc2 (v := 96) hx hb hown (hts _ (List.mem_of_getElem? (i := 2) rfl)) dX12_spelt_93 ?_
          refine lv_lsub hx hb dX12_spelt_96 ?_
          refine lv_topl (fun w94 e95 => ?_)
          refine lv_lstore (lv' := [(6, .long w94), (0, .int x), (1, .int y), (2, .int z), (3, .int x4), (4, .int x5), (5, .int x6)]) hx hb dX12_spelt_97 hl (by decide) rfl (fun ls hl => ?_)
          refine lv_lload hx hb dX12_spelt_99 (lv_at hl 0 rfl) ?_
          rw [hQ]
          exact W.lret (v := w94) hx hb hr (fun t9 ht9 hW9 => ⟨⟨w94, (), rfl, (lf_g_spelt_10 x y z x4 x5 x6 w1 w3 w5 w7 w9 w11 w77 w79 w81 w83 w88 w90 w92 w94 e2 e4 e6 e8 e10 e12 c13 e78 e80 e82 e84 c85 c86 c87 e89 e91 e93 e95), by rw [ht9]; exact hP, va_K.moved hW9.alike hK, hD⟩, hS.F ht9⟩) hS.2.2 dX12_spelt_101
      · refine lv_ldc2 (v := 27) hx hb hown (hts _ (List.mem_of_getElem? (i := 1) rfl)) dX12_spelt_62 ?_
        refine lv_lload hx hb dX12_spelt_65 (lv_at hl 0 rfl) ?_
        refine lv_lmul hx hb dX12_spelt_67 ?_
        refine lv_topl (fun w96 e97 => ?_)
        refine lv_iload hx hb dX12_spelt_68 (lv_at hl 5 rfl) ?_
        obtain ⟨w98, e99⟩ : ∃ z9 : Int64, z9 = (x5).toInt64 := ⟨_, rfl⟩
        refine lv_i2l (v := w98) hx hb dX12_spelt_70 e99.symm ?_
        refine lv_ladd hx hb dX12_spelt_71 ?_
        refine lv_topl (fun w100 e101 => ?_)
        refine lv_ldc2 (v := 96) hx hb hown (hts _ (List.mem_of_getElem? (i := 2) rfl)) dX12_spelt_72 ?_
        refine lv_lsub hx hb dX12_spelt_75 ?_
        refine lv_topl (fun w102 e103 => ?_)
        refine lv_lstore (lv' := [(6, .long w102), (0, .int x), (1, .int y), (2, .int z), (3, .int x4), (4, .int x5), (5, .int x6)]) hx hb dX12_spelt_76 hl (by decide) rfl (fun ls hl => ?_)
        refine lv_iload hx hb dX12_spelt_78 (lv_at hl 6 rfl) ?_
        refine lv_if_le (tgt := 99) hx hb dX12_spelt_80 (by decide) (fun c104 => ?_) (fun c104 => ?_)
        · refine lv_lload hx hb dX12_spelt_99 (lv_at hl 0 rfl) ?_
          rw [hQ]
          exact W.lret (v := w102) hx hb hr (fun t9 ht9 hW9 => ⟨⟨w102, (), rfl, (lf_g_spelt_11 x y z x4 x5 x6 w1 w3 w5 w7 w9 w11 w77 w79 w81 w83 w96 w98 w100 w102 e2 e4 e6 e8 e10 e12 c13 e78 e80 e82 e84 c85 c86 e97 e99 e101 e103 c104), by rw [ht9]; exact hP, va_K.moved hW9.alike hK, hD⟩, hS.F ht9⟩) hS.2.2 dX12_spelt_101
        · refine lv_ldc2 (v := 27) hx hb hown (hts _ (List.mem_of_getElem? (i := 1) rfl)) dX12_spelt_83 ?_
          refine lv_lload hx hb dX12_spelt_86 (lv_at hl 0 rfl) ?_
          refine lv_lmul hx hb dX12_spelt_88 ?_
          refine lv_topl (fun w105 e106 => ?_)
          refine lv_iload hx hb dX12_spelt_89 (lv_at hl 6 rfl) ?_
          obtain ⟨w107, e108⟩ : ∃ z9 : Int64, z9 = (x6).toInt64 := ⟨_, rfl⟩
          refine lv_i2l (v := w107) hx hb dX12_spelt_91 e108.symm ?_
          refine lv_ladd hx hb dX12_spelt_92 ?_
          refine lv_topl (fun w109 e110 => ?_)
          refine lv_ldc2 (v := 96) hx hb hown (hts _ (List.mem_of_getElem? (i := 2) rfl)) dX12_spelt_93 ?_
          refine lv_lsub hx hb dX12_spelt_96 ?_
          refine lv_topl (fun w111 e112 => ?_)
          refine lv_lstore (lv' := [(6, .long w111), (0, .int x), (1, .int y), (2, .int z), (3, .int x4), (4, .int x5), (5, .int x6)]) hx hb dX12_spelt_97 hl (by decide) rfl (fun ls hl => ?_)
          refine lv_lload hx hb dX12_spelt_99 (lv_at hl 0 rfl) ?_
          rw [hQ]
          exact W.lret (v := w111) hx hb hr (fun t9 ht9 hW9 => ⟨⟨w111, (), rfl, (lf_g_spelt_12 x y z x4 x5 x6 w1 w3 w5 w7 w9 w11 w77 w79 w81 w83 w96 w98 w100 w102 w105 w107 w109 w111 e2 e4 e6 e8 e10 e12 c13 e78 e80 e82 e84 c85 c86 e97 e99 e101 e103 c104 e106 e108 e110 e112), by rw [ht9]; exact hP, va_K.moved hW9.alike hK, hD⟩, hS.F ht9⟩) hS.2.2 dX12_spelt_101
    · refine lv_ldc2 (v := 27) hx hb hown (hts _ (List.mem_of_getElem? (i := 1) rfl)) dX12_spelt_42 ?_
      refine lv_lload hx hb dX12_spelt_45 (lv_at hl 0 rfl) ?_
      refine lv_lmul hx hb dX12_spelt_47 ?_
      refine lv_topl (fun w113 e114 => ?_)
      refine lv_iload_n hx hb dX12_spelt_48 rfl (lv_at hl 4 rfl) ?_
      obtain ⟨w115, e116⟩ : ∃ z9 : Int64, z9 = (x4).toInt64 := ⟨_, rfl⟩
      refine lv_i2l (v := w115) hx hb dX12_spelt_49 e116.symm ?_
      refine lv_ladd hx hb dX12_spelt_50 ?_
      refine lv_topl (fun w117 e118 => ?_)
      refine lv_ldc2 (v := 96) hx hb hown (hts _ (List.mem_of_getElem? (i := 2) rfl)) dX12_spelt_51 ?_
      refine lv_lsub hx hb dX12_spelt_54 ?_
      refine lv_topl (fun w119 e120 => ?_)
      refine lv_lstore (lv' := [(6, .long w119), (0, .int x), (1, .int y), (2, .int z), (3, .int x4), (4, .int x5), (5, .int x6)]) hx hb dX12_spelt_55 hl (by decide) rfl (fun ls hl => ?_)
      refine lv_iload hx hb dX12_spelt_57 (lv_at hl 5 rfl) ?_
      refine lv_if_le (tgt := 78) hx hb dX12_spelt_59 (by decide) (fun c121 => ?_) (fun c121 => ?_)
      · refine lv_iload hx hb dX12_spelt_78 (lv_at hl 6 rfl) ?_
        refine lv_if_le (tgt := 99) hx hb dX12_spelt_80 (by decide) (fun c122 => ?_) (fun c122 => ?_)
        · refine lv_lload hx hb dX12_spelt_99 (lv_at hl 0 rfl) ?_
          rw [hQ]
          exact W.lret (v := w119) hx hb hr (fun t9 ht9 hW9 => ⟨⟨w119, (), rfl, (lf_g_spelt_13 x y z x4 x5 x6 w1 w3 w5 w7 w9 w11 w77 w79 w81 w83 w113 w115 w117 w119 e2 e4 e6 e8 e10 e12 c13 e78 e80 e82 e84 c85 e114 e116 e118 e120 c121 c122), by rw [ht9]; exact hP, va_K.moved hW9.alike hK, hD⟩, hS.F ht9⟩) hS.2.2 dX12_spelt_101
        · refine lv_ldc2 (v := 27) hx hb hown (hts _ (List.mem_of_getElem? (i := 1) rfl)) dX12_spelt_83 ?_
          refine lv_lload hx hb dX12_spelt_86 (lv_at hl 0 rfl) ?_
          refine lv_lmul hx hb dX12_spelt_88 ?_
          refine lv_topl (fun w123 e124 => ?_)
          refine lv_iload hx hb dX12_spelt_89 (lv_at hl 6 rfl) ?_
          obtain ⟨w125, e126⟩ : ∃ z9 : Int64, z9 = (x6).toInt64 := ⟨_, rfl⟩
          refine lv_i2l (v := w125) hx hb dX12_spelt_91 e126.symm ?_
          refine lv_ladd hx hb dX12_spelt_92 ?_
          refine lv_topl (fun w127 e128 => ?_)
          refine lv_ldc2 (v := 96) hx hb hown (hts _ (List.mem_of_getElem? (i := 2) rfl)) dX12_spelt_93 ?_
          refine lv_lsub hx hb dX12_spelt_96 ?_
          refine lv_topl (fun w129 e130 => ?_)
          refine lv_lstore (lv' := [(6, .long w129), (0, .int x), (1, .int y), (2, .int z), (3, .int x4), (4, .int x5), (5, .int x6)]) hx hb dX12_spelt_97 hl (by decide) rfl (fun ls hl => ?_)
          refine lv_lload hx hb dX12_spelt_99 (lv_at hl 0 rfl) ?_
          rw [hQ]
          exact W.lret (v := w129) hx hb hr (fun t9 ht9 hW9 => ⟨⟨w129, (), rfl, (lf_g_spelt_14 x y z x4 x5 x6 w1 w3 w5 w7 w9 w11 w77 w79 w81 w83 w113 w115 w117 w119 w123 w125 w127 w129 e2 e4 e6 e8 e10 e12 c13 e78 e80 e82 e84 c85 e114 e116 e118 e120 c121 c122 e124 e126 e128 e130), by rw [ht9]; exact hP, va_K.moved hW9.alike hK, hD⟩, hS.F ht9⟩) hS.2.2 dX12_spelt_101
      · refine lv_ldc2 (v := 27) hx hb hown (hts _ (List.mem_of_getElem? (i := 1) rfl)) dX12_spelt_62 ?_
        refine lv_lload hx hb dX12_spelt_65 (lv_at hl 0 rfl) ?_
        refine lv_lmul hx hb dX12_spelt_67 ?_
        refine lv_topl (fun w131 e132 => ?_)
        refine lv_iload hx hb dX12_spelt_68 (lv_at hl 5 rfl) ?_
        obtain ⟨w133, e134⟩ : ∃ z9 : Int64, z9 = (x5).toInt64 := ⟨_, rfl⟩
        refine lv_i2l (v := w133) hx hb dX12_spelt_70 e134.symm ?_
        refine lv_ladd hx hb dX12_spelt_71 ?_
        refine lv_topl (fun w135 e136 => ?_)
        refine lv_ldc2 (v := 96) hx hb hown (hts _ (List.mem_of_getElem? (i := 2) rfl)) dX12_spelt_72 ?_
        refine lv_lsub hx hb dX12_spelt_75 ?_
        refine lv_topl (fun w137 e138 => ?_)
        refine lv_lstore (lv' := [(6, .long w137), (0, .int x), (1, .int y), (2, .int z), (3, .int x4), (4, .int x5), (5, .int x6)]) hx hb dX12_spelt_76 hl (by decide) rfl (fun ls hl => ?_)
        refine lv_iload hx hb dX12_spelt_78 (lv_at hl 6 rfl) ?_
        refine lv_if_le (tgt := 99) hx hb dX12_spelt_80 (by decide) (fun c139 => ?_) (fun c139 => ?_)
        · refine lv_lload hx hb dX12_spelt_99 (lv_at hl 0 rfl) ?_
          rw [hQ]
          exact W.lret (v := w137) hx hb hr (fun t9 ht9 hW9 => ⟨⟨w137, (), rfl, (lf_g_spelt_15 x y z x4 x5 x6 w1 w3 w5 w7 w9 w11 w77 w79 w81 w83 w113 w115 w117 w119 w131 w133 w135 w137 e2 e4 e6 e8 e10 e12 c13 e78 e80 e82 e84 c85 e114 e116 e118 e120 c121 e132 e134 e136 e138 c139), by rw [ht9]; exact hP, va_K.moved hW9.alike hK, hD⟩, hS.F ht9⟩) hS.2.2 dX12_spelt_101
        · refine lv_ldc2 (v := 27) hx hb hown (hts _ (List.mem_of_getElem? (i := 1) rfl)) dX12_spelt_83 ?_
          refine lv_lload hx hb dX12_spelt_86 (lv_at hl 0 rfl) ?_
          refine lv_lmul hx hb dX12_spelt_88 ?_
          refine lv_topl (fun w140 e141 => ?_)
          refine lv_iload hx hb dX12_spelt_89 (lv_at hl 6 rfl) ?_
          obtain ⟨w142, e143⟩ : ∃ z9 : Int64, z9 = (x6).toInt64 := ⟨_, rfl⟩
          refine lv_i2l (v := w142) hx hb dX12_spelt_91 e143.symm ?_
          refine lv_ladd hx hb dX12_spelt_92 ?_
          refine lv_topl (fun w144 e145 => ?_)
          refine lv_ldc2 (v := 96) hx hb hown (hts _ (List.mem_of_getElem? (i := 2) rfl)) dX12_spelt_93 ?_
          refine lv_lsub hx hb dX12_spelt_96 ?_
          refine lv_topl (fun w146 e147 => ?_)
          refine lv_lstore (lv' := [(6, .long w146), (0, .int x), (1, .int y), (2, .int z), (3, .int x4), (4, .int x5), (5, .int x6)]) hx hb dX12_spelt_97 hl (by decide) rfl (fun ls hl => ?_)
          refine lv_lload hx hb dX12_spelt_99 (lv_at hl 0 rfl) ?_
          rw [hQ]
          exact W.lret (v := w146) hx hb hr (fun t9 ht9 hW9 => ⟨⟨w146, (), rfl, (lf_g_spelt_16 x y z x4 x5 x6 w1 w3 w5 w7 w9 w11 w77 w79 w81 w83 w113 w115 w117 w119 w131 w133 w135 w137 w140 w142 w144 w146 e2 e4 e6 e8 e10 e12 c13 e78 e80 e82 e84 c85 e114 e116 e118 e120 c121 e132 e134 e136 e138 c139 e141 e143 e145 e147), by rw [ht9]; exact hP, va_K.moved hW9.alike hK, hD⟩, hS.F ht9⟩) hS.2.2 dX12_spelt_101
set_option maxRecDepth 20000 in
theorem lf_g_wordOf_1 (x : Int32) (r35 : Int64) (c2 : x.toInt < 0 ∨ 29 < x.toInt) (p36 : r35 = spF (nI 110) (nI 117) (nI 109) (nI 98) (nI 101) (nI 114)) : WOf x r35 := by
  exact wof30 (by assumption) (by rw [p36]; decide +kernel)
set_option maxRecDepth 20000 in
theorem lf_g_wordOf_2 (x : Int32) (r39 : Int64) (c3 : x = nI 0) (p40 : r39 = spF (nI 115) (nI 101) (nI 97) (nI 0) (nI 0) (nI 0)) : WOf x r39 := by
  exact wof (j := 0) (by decide) (by assumption) (by rw [p40]; decide +kernel)
set_option maxRecDepth 20000 in
theorem lf_g_wordOf_3 (x : Int32) (r43 : Int64) (c4 : x = nI 1) (p44 : r43 = spF (nI 116) (nI 104) (nI 105) (nI 99) (nI 107) (nI 0)) : WOf x r43 := by
  exact wof (j := 1) (by decide) (by assumption) (by rw [p44]; decide +kernel)
set_option maxRecDepth 20000 in
theorem lf_g_wordOf_4 (x : Int32) (r47 : Int64) (c5 : x = nI 2) (p48 : r47 = spF (nI 108) (nI 117) (nI 109) (nI 112) (nI 0) (nI 0)) : WOf x r47 := by
  exact wof (j := 2) (by decide) (by assumption) (by rw [p48]; decide +kernel)
set_option maxRecDepth 20000 in
theorem lf_g_wordOf_5 (x : Int32) (r51 : Int64) (c6 : x = nI 3) (p52 : r51 = spF (nI 98) (nI 111) (nI 97) (nI 116) (nI 0) (nI 0)) : WOf x r51 := by
  exact wof (j := 3) (by decide) (by assumption) (by rw [p52]; decide +kernel)
set_option maxRecDepth 20000 in
theorem lf_g_wordOf_6 (x : Int32) (r55 : Int64) (c7 : x = nI 4) (p56 : r55 = spF (nI 104) (nI 101) (nI 97) (nI 116) (nI 0) (nI 0)) : WOf x r55 := by
  exact wof (j := 4) (by decide) (by assumption) (by rw [p56]; decide +kernel)
set_option maxRecDepth 20000 in
theorem lf_g_wordOf_7 (x : Int32) (r59 : Int64) (c8 : x = nI 5) (p60 : r59 = spF (nI 99) (nI 111) (nI 111) (nI 108) (nI 115) (nI 0)) : WOf x r59 := by
  exact wof (j := 5) (by decide) (by assumption) (by rw [p60]; decide +kernel)
set_option maxRecDepth 20000 in
theorem lf_g_wordOf_8 (x : Int32) (r63 : Int64) (c9 : x = nI 6) (p64 : r63 = spF (nI 115) (nI 107) (nI 105) (nI 110) (nI 0) (nI 0)) : WOf x r63 := by
  exact wof (j := 6) (by decide) (by assumption) (by rw [p64]; decide +kernel)
set_option maxRecDepth 20000 in
theorem lf_g_wordOf_9 (x : Int32) (r67 : Int64) (c10 : x = nI 7) (p68 : r67 = spF (nI 115) (nI 116) (nI 105) (nI 114) (nI 0) (nI 0)) : WOf x r67 := by
  exact wof (j := 7) (by decide) (by assumption) (by rw [p68]; decide +kernel)
set_option maxRecDepth 20000 in
theorem lf_g_wordOf_10 (x : Int32) (r71 : Int64) (c11 : x = nI 8) (p72 : r71 = spF (nI 114) (nI 111) (nI 119) (nI 0) (nI 0) (nI 0)) : WOf x r71 := by
  exact wof (j := 8) (by decide) (by assumption) (by rw [p72]; decide +kernel)
set_option maxRecDepth 20000 in
theorem lf_g_wordOf_11 (x : Int32) (r75 : Int64) (c12 : x = nI 9) (p76 : r75 = spF (nI 99) (nI 111) (nI 108) (nI 117) (nI 109) (nI 110)) : WOf x r75 := by
  exact wof (j := 9) (by decide) (by assumption) (by rw [p76]; decide +kernel)
set_option maxRecDepth 20000 in
theorem lf_g_wordOf_12 (x : Int32) (r79 : Int64) (c13 : x = nI 10) (p80 : r79 = spF (nI 111) (nI 110) (nI 0) (nI 0) (nI 0) (nI 0)) : WOf x r79 := by
  exact wof (j := 10) (by decide) (by assumption) (by rw [p80]; decide +kernel)
set_option maxRecDepth 20000 in
theorem lf_g_wordOf_13 (x : Int32) (r83 : Int64) (c14 : x = nI 11) (p84 : r83 = spF (nI 98) (nI 97) (nI 99) (nI 107) (nI 0) (nI 0)) : WOf x r83 := by
  exact wof (j := 11) (by decide) (by assumption) (by rw [p84]; decide +kernel)
set_option maxRecDepth 20000 in
theorem lf_g_wordOf_14 (x : Int32) (r87 : Int64) (c15 : x = nI 12) (p88 : r87 = spF (nI 101) (nI 97) (nI 115) (nI 116) (nI 0) (nI 0)) : WOf x r87 := by
  exact wof (j := 12) (by decide) (by assumption) (by rw [p88]; decide +kernel)
set_option maxRecDepth 20000 in
theorem lf_g_wordOf_15 (x : Int32) (r91 : Int64) (c16 : x = nI 13) (p92 : r91 = spF (nI 115) (nI 111) (nI 117) (nI 116) (nI 104) (nI 0)) : WOf x r91 := by
  exact wof (j := 13) (by decide) (by assumption) (by rw [p92]; decide +kernel)
set_option maxRecDepth 20000 in
theorem lf_g_wordOf_16 (x : Int32) (r95 : Int64) (c17 : x = nI 14) (p96 : r95 = spF (nI 119) (nI 101) (nI 115) (nI 116) (nI 0) (nI 0)) : WOf x r95 := by
  exact wof (j := 14) (by decide) (by assumption) (by rw [p96]; decide +kernel)
set_option maxRecDepth 20000 in
theorem lf_g_wordOf_17 (x : Int32) (r99 : Int64) (c18 : x = nI 15) (p100 : r99 = spF (nI 110) (nI 111) (nI 114) (nI 116) (nI 104) (nI 0)) : WOf x r99 := by
  exact wof (j := 15) (by decide) (by assumption) (by rw [p100]; decide +kernel)
set_option maxRecDepth 20000 in
theorem lf_g_wordOf_18 (x : Int32) (r103 : Int64) (c19 : x = nI 16) (p104 : r103 = spF (nI 102) (nI 108) (nI 111) (nI 117) (nI 114) (nI 0)) : WOf x r103 := by
  exact wof (j := 16) (by decide) (by assumption) (by rw [p104]; decide +kernel)
set_option maxRecDepth 20000 in
theorem lf_g_wordOf_19 (x : Int32) (r107 : Int64) (c20 : x = nI 17) (p108 : r107 = spF (nI 109) (nI 105) (nI 108) (nI 107) (nI 0) (nI 0)) : WOf x r107 := by
  exact wof (j := 17) (by decide) (by assumption) (by rw [p108]; decide +kernel)
set_option maxRecDepth 20000 in
theorem lf_g_wordOf_20 (x : Int32) (r111 : Int64) (c21 : x = nI 18) (p112 : r111 = spF (nI 115) (nI 116) (nI 111) (nI 118) (nI 101) (nI 0)) : WOf x r111 := by
  exact wof (j := 18) (by decide) (by assumption) (by rw [p112]; decide +kernel)
set_option maxRecDepth 20000 in
theorem lf_g_wordOf_21 (x : Int32) (r115 : Int64) (c22 : x = nI 19) (p116 : r115 = spF (nI 100) (nI 97) (nI 121) (nI 0) (nI 0) (nI 0)) : WOf x r115 := by
  exact wof (j := 19) (by decide) (by assumption) (by rw [p116]; decide +kernel)
set_option maxRecDepth 20000 in
theorem lf_g_wordOf_22 (x : Int32) (r119 : Int64) (c23 : x = nI 20) (p120 : r119 = spF (nI 111) (nI 114) (nI 0) (nI 0) (nI 0) (nI 0)) : WOf x r119 := by
  exact wof (j := 20) (by decide) (by assumption) (by rw [p120]; decide +kernel)
set_option maxRecDepth 20000 in
theorem lf_g_wordOf_23 (x : Int32) (r123 : Int64) (c24 : x = nI 21) (p124 : r123 = spF (nI 97) (nI 110) (nI 100) (nI 0) (nI 0) (nI 0)) : WOf x r123 := by
  exact wof (j := 21) (by decide) (by assumption) (by rw [p124]; decide +kernel)
set_option maxRecDepth 20000 in
theorem lf_g_wordOf_24 (x : Int32) (r127 : Int64) (c25 : x = nI 22) (p128 : r127 = spF (nI 110) (nI 111) (nI 116) (nI 0) (nI 0) (nI 0)) : WOf x r127 := by
  exact wof (j := 22) (by decide) (by assumption) (by rw [p128]; decide +kernel)
set_option maxRecDepth 20000 in
theorem lf_g_wordOf_25 (x : Int32) (r131 : Int64) (c26 : x = nI 23) (p132 : r131 = spF (nI 101) (nI 97) (nI 116) (nI 101) (nI 110) (nI 0)) : WOf x r131 := by
  exact wof (j := 23) (by decide) (by assumption) (by rw [p132]; decide +kernel)
set_option maxRecDepth 20000 in
theorem lf_g_wordOf_26 (x : Int32) (r135 : Int64) (c27 : x = nI 24) (p136 : r135 = spF (nI 97) (nI 102) (nI 108) (nI 111) (nI 97) (nI 116)) : WOf x r135 := by
  exact wof (j := 24) (by decide) (by assumption) (by rw [p136]; decide +kernel)
set_option maxRecDepth 20000 in
theorem lf_g_wordOf_27 (x : Int32) (r139 : Int64) (c28 : x = nI 25) (p140 : r139 = spF (nI 108) (nI 97) (nI 110) (nI 100) (nI 101) (nI 100)) : WOf x r139 := by
  exact wof (j := 25) (by decide) (by assumption) (by rw [p140]; decide +kernel)
set_option maxRecDepth 20000 in
theorem lf_g_wordOf_28 (x : Int32) (r143 : Int64) (c29 : x = nI 26) (p144 : r143 = spF (nI 98) (nI 121) (nI 0) (nI 0) (nI 0) (nI 0)) : WOf x r143 := by
  exact wof (j := 26) (by decide) (by assumption) (by rw [p144]; decide +kernel)
set_option maxRecDepth 20000 in
theorem lf_g_wordOf_29 (x : Int32) (r147 : Int64) (c30 : x = nI 27) (p148 : r147 = spF (nI 108) (nI 111) (nI 97) (nI 100) (nI 0) (nI 0)) : WOf x r147 := by
  exact wof (j := 27) (by decide) (by assumption) (by rw [p148]; decide +kernel)
set_option maxRecDepth 20000 in
theorem lf_g_wordOf_30 (x : Int32) (r151 : Int64) (c31 : x = nI 28) (p152 : r151 = spF (nI 100) (nI 101) (nI 112) (nI 116) (nI 104) (nI 0)) : WOf x r151 := by
  exact wof (j := 28) (by decide) (by assumption) (by rw [p152]; decide +kernel)
set_option maxRecDepth 20000 in
theorem lf_g_wordOf_31 (x : Int32) (r155 : Int64) (c32 : x = nI 29) (p156 : r155 = spF (nI 108) (nI 101) (nI 102) (nI 116) (nI 0) (nI 0)) : WOf x r155 := by
  exact wof (j := 29) (by decide) (by assumption) (by rw [p156]; decide +kernel)
set_option maxHeartbeats 4000000 in
set_option maxRecDepth 100000 in
theorem c_g_wordOf (l : Launch) (dC : Nat → ClassId) (dI : Nat → Nat → Nat) (ky : Nat → ClassId) (sz : Nat) (x : Int32)  : Met l yX12_wordOf wsX12_wordOf ({ frames := 1, cells := 0, slots := 0, locals := 27 }) (PcU dC dI ky [.int x] [] sz) (va_Ql (fun (r : Int64) (_ : Unit) => WOf x r) (BU dC dI ky (fun (_ : Unit) => []) (va_A [] sz)) (va_A [] sz)) 0 0 (va_A [] sz) := by
  refine Met.ofW (cc := cX12_wordOf) (maxL := 1) (ret := (some .long)) (by decide) rfl ?_
  intro p e s m args below meth c s₁ B hml hv
  obtain ⟨rfl, hsz, hP, hK, hD0⟩ := hv
  have hx := B.exec
  have hb := B.bytes
  have hr := B.returns
  have hts := atoms_spec (ws := wsX12_wordOf) B.pre
  have hown : s.vm.findClass RX12 = some m.cls := findClass_of_methodNamed B.named
  have hlocks := B.notSynchronized
  subst hsz
  have hD := hD0.self (sz := s.heap.size)
  generalize hAe : va_A [] s.heap.size = A at hD ⊢
  have hA : ∀ q : Nat, s.heap.size ≤ q → A q := fun q h => by rw [← hAe]; exact Or.inr h
  have hS : va_S A s.heap s.heap [] := va_S.rf
  have hl := lv_entry ([.int x]) (n := 1) (Nat.le_of_ble_eq_true rfl)
  rw [lg_entry_eq]
  generalize (lg_sl ([.int x]) ++ List.replicate (1 - (lg_sl ([.int x])).length) Slot.unset).toArray = ls at hl ⊢
  have hl : lv_has ls 1 [(0, .int x)] := hl
  refine q_name (fun Q hQ => ?_)
  generalize ([.int x] : List Value).toArray = args at hts hQ ⊢
  refine lv_iload_n hx hb dX12_wordOf_0 rfl (lv_at hl 0 rfl) ?_
  rcases sw_0_29 x with c2 | c3 | c4 | c5 | c6 | c7 | c8 | c9 | c10 | c11 | c12 | c13 | c14 | c15 | c16 | c17 | c18 | c19 | c20 | c21 | c22 | c23 | c24 | c25 | c26 | c27 | c28 | c29 | c30 | c31 | c32
  · refine lv_tableOut (tgt := 559) hx hb dX12_wordOf_1 c2 (by decide) ?_
    refine lv_bipush (v := nI 110) hx hb dX12_wordOf_559 (by decide) ?_
    refine lv_bipush (v := nI 117) hx hb dX12_wordOf_561 (by decide) ?_
    refine lv_bipush (v := nI 109) hx hb dX12_wordOf_563 (by decide) ?_
    refine lv_bipush (v := nI 98) hx hb dX12_wordOf_565 (by decide) ?_
    refine lv_bipush (v := nI 101) hx hb dX12_wordOf_567 (by decide) ?_
    refine lv_bipush (v := nI 114) hx hb dX12_wordOf_569 (by decide) ?_
    refine r_call_l (wr := []) (va_runS (As := [.int (nI 110), .int (nI 117), .int (nI 109), .int (nI 98), .int (nI 101), .int (nI 114)]) (rest := []) ⟨hx, hb, hml, hown, hts⟩ (c_g_spelt l dC dI ky s.heap.size (nI 110) (nI 117) (nI 109) (nI 98) (nI 101) (nI 114)) (va_cwS 6 hts gX12_wordOf_X12_spelt rfl rfl rfl (by decide +kernel) ⟨(Nat.le_of_ble_eq_true rfl), (Nat.le_of_ble_eq_true rfl)⟩) (pre_US hK hP hD [] (by decide) rfl) rfl rfl hl.1 rfl (lv_room (Nat.le_of_ble_eq_true rfl)) dX12_wordOf_571 ⟨(Nat.le_of_ble_eq_true rfl), (Nat.le_of_ble_eq_true rfl)⟩) hP hD hS hA [] [] rfl rfl (by decide) (by decide) (fun r35 u33 H locs p34 hP hD hS => ?_)
    try dsimp only at p34
    have p36 := p34
    refine W.widen (k := 0) (n := 0) (Nat.le_of_ble_eq_true rfl) (Nat.le_of_ble_eq_true rfl) ?_
    have hP : va_P (dC, dI) vwCl [] H := hP
    have hD : va_D A [] := hD
    rw [hQ]
    exact W.lret (v := r35) hx hb hr (fun t9 ht9 hW9 => ⟨⟨r35, (), rfl, (lf_g_wordOf_1 x r35 c2 p36), by rw [ht9]; exact hP, va_K.moved hW9.alike hK, hD⟩, hS.F ht9⟩) hS.2.2 dX12_wordOf_574
  · refine r_ti (nI 0) c3 ?_
    rw [c3] at hl
    refine lv_tableIn (off := 135) (tgt := 136) hx hb dX12_wordOf_1 (by decide) (by decide) rfl (by decide) ?_
    refine lv_bipush (v := nI 115) hx hb dX12_wordOf_136 (by decide) ?_
    refine lv_bipush (v := nI 101) hx hb dX12_wordOf_138 (by decide) ?_
    refine lv_bipush (v := nI 97) hx hb dX12_wordOf_140 (by decide) ?_
    refine lv_iconst (v := nI 0) hx hb dX12_wordOf_142 (by decide) ?_
    refine lv_iconst (v := nI 0) hx hb dX12_wordOf_143 (by decide) ?_
    refine lv_iconst (v := nI 0) hx hb dX12_wordOf_144 (by decide) ?_
    refine r_call_l (wr := []) (va_runS (As := [.int (nI 115), .int (nI 101), .int (nI 97), .int (nI 0), .int (nI 0), .int (nI 0)]) (rest := []) ⟨hx, hb, hml, hown, hts⟩ (c_g_spelt l dC dI ky s.heap.size (nI 115) (nI 101) (nI 97) (nI 0) (nI 0) (nI 0)) (va_cwS 6 hts gX12_wordOf_X12_spelt rfl rfl rfl (by decide +kernel) ⟨(Nat.le_of_ble_eq_true rfl), (Nat.le_of_ble_eq_true rfl)⟩) (pre_US hK hP hD [] (by decide) rfl) rfl rfl hl.1 rfl (lv_room (Nat.le_of_ble_eq_true rfl)) dX12_wordOf_145 ⟨(Nat.le_of_ble_eq_true rfl), (Nat.le_of_ble_eq_true rfl)⟩) hP hD hS hA [] [] rfl rfl (by decide) (by decide) (fun r39 u37 H locs p38 hP hD hS => ?_)
    try dsimp only at p38
    have p40 := p38
    refine W.widen (k := 0) (n := 0) (Nat.le_of_ble_eq_true rfl) (Nat.le_of_ble_eq_true rfl) ?_
    have hP : va_P (dC, dI) vwCl [] H := hP
    have hD : va_D A [] := hD
    rw [hQ]
    exact W.lret (v := r39) hx hb hr (fun t9 ht9 hW9 => ⟨⟨r39, (), rfl, (lf_g_wordOf_2 x r39 c3 p40), by rw [ht9]; exact hP, va_K.moved hW9.alike hK, hD⟩, hS.F ht9⟩) hS.2.2 dX12_wordOf_148
  · refine r_ti (nI 1) c4 ?_
    rw [c4] at hl
    refine lv_tableIn (off := 148) (tgt := 149) hx hb dX12_wordOf_1 (by decide) (by decide) rfl (by decide) ?_
    refine lv_bipush (v := nI 116) hx hb dX12_wordOf_149 (by decide) ?_
    refine lv_bipush (v := nI 104) hx hb dX12_wordOf_151 (by decide) ?_
    refine lv_bipush (v := nI 105) hx hb dX12_wordOf_153 (by decide) ?_
    refine lv_bipush (v := nI 99) hx hb dX12_wordOf_155 (by decide) ?_
    refine lv_bipush (v := nI 107) hx hb dX12_wordOf_157 (by decide) ?_
    refine lv_iconst (v := nI 0) hx hb dX12_wordOf_159 (by decide) ?_
    refine r_call_l (wr := []) (va_runS (As := [.int (nI 116), .int (nI 104), .int (nI 105), .int (nI 99), .int (nI 107), .int (nI 0)]) (rest := []) ⟨hx, hb, hml, hown, hts⟩ (c_g_spelt l dC dI ky s.heap.size (nI 116) (nI 104) (nI 105) (nI 99) (nI 107) (nI 0)) (va_cwS 6 hts gX12_wordOf_X12_spelt rfl rfl rfl (by decide +kernel) ⟨(Nat.le_of_ble_eq_true rfl), (Nat.le_of_ble_eq_true rfl)⟩) (pre_US hK hP hD [] (by decide) rfl) rfl rfl hl.1 rfl (lv_room (Nat.le_of_ble_eq_true rfl)) dX12_wordOf_160 ⟨(Nat.le_of_ble_eq_true rfl), (Nat.le_of_ble_eq_true rfl)⟩) hP hD hS hA [] [] rfl rfl (by decide) (by decide) (fun r43 u41 H locs p42 hP hD hS => ?_)
    try dsimp only at p42
    have p44 := p42
    refine W.widen (k := 0) (n := 0) (Nat.le_of_ble_eq_true rfl) (Nat.le_of_ble_eq_true rfl) ?_
    have hP : va_P (dC, dI) vwCl [] H := hP
    have hD : va_D A [] := hD
    rw [hQ]
    exact W.lret (v := r43) hx hb hr (fun t9 ht9 hW9 => ⟨⟨r43, (), rfl, (lf_g_wordOf_3 x r43 c4 p44), by rw [ht9]; exact hP, va_K.moved hW9.alike hK, hD⟩, hS.F ht9⟩) hS.2.2 dX12_wordOf_163
  · refine r_ti (nI 2) c5 ?_
    rw [c5] at hl
    refine lv_tableIn (off := 163) (tgt := 164) hx hb dX12_wordOf_1 (by decide) (by decide) rfl (by decide) ?_
    refine lv_bipush (v := nI 108) hx hb dX12_wordOf_164 (by decide) ?_
    refine lv_bipush (v := nI 117) hx hb dX12_wordOf_166 (by decide) ?_
    refine lv_bipush (v := nI 109) hx hb dX12_wordOf_168 (by decide) ?_
    refine lv_bipush (v := nI 112) hx hb dX12_wordOf_170 (by decide) ?_
    refine lv_iconst (v := nI 0) hx hb dX12_wordOf_172 (by decide) ?_
    refine lv_iconst (v := nI 0) hx hb dX12_wordOf_173 (by decide) ?_
    refine r_call_l (wr := []) (va_runS (As := [.int (nI 108), .int (nI 117), .int (nI 109), .int (nI 112), .int (nI 0), .int (nI 0)]) (rest := []) ⟨hx, hb, hml, hown, hts⟩ (c_g_spelt l dC dI ky s.heap.size (nI 108) (nI 117) (nI 109) (nI 112) (nI 0) (nI 0)) (va_cwS 6 hts gX12_wordOf_X12_spelt rfl rfl rfl (by decide +kernel) ⟨(Nat.le_of_ble_eq_true rfl), (Nat.le_of_ble_eq_true rfl)⟩) (pre_US hK hP hD [] (by decide) rfl) rfl rfl hl.1 rfl (lv_room (Nat.le_of_ble_eq_true rfl)) dX12_wordOf_174 ⟨(Nat.le_of_ble_eq_true rfl), (Nat.le_of_ble_eq_true rfl)⟩) hP hD hS hA [] [] rfl rfl (by decide) (by decide) (fun r47 u45 H locs p46 hP hD hS => ?_)
    try dsimp only at p46
    have p48 := p46
    refine W.widen (k := 0) (n := 0) (Nat.le_of_ble_eq_true rfl) (Nat.le_of_ble_eq_true rfl) ?_
    have hP : va_P (dC, dI) vwCl [] H := hP
    have hD : va_D A [] := hD
    rw [hQ]
    exact W.lret (v := r47) hx hb hr (fun t9 ht9 hW9 => ⟨⟨r47, (), rfl, (lf_g_wordOf_4 x r47 c5 p48), by rw [ht9]; exact hP, va_K.moved hW9.alike hK, hD⟩, hS.F ht9⟩) hS.2.2 dX12_wordOf_177
  · refine r_ti (nI 3) c6 ?_
    rw [c6] at hl
    refine lv_tableIn (off := 177) (tgt := 178) hx hb dX12_wordOf_1 (by decide) (by decide) rfl (by decide) ?_
    refine lv_bipush (v := nI 98) hx hb dX12_wordOf_178 (by decide) ?_
    refine lv_bipush (v := nI 111) hx hb dX12_wordOf_180 (by decide) ?_
    refine lv_bipush (v := nI 97) hx hb dX12_wordOf_182 (by decide) ?_
    refine lv_bipush (v := nI 116) hx hb dX12_wordOf_184 (by decide) ?_
    refine lv_iconst (v := nI 0) hx hb dX12_wordOf_186 (by decide) ?_
    refine lv_iconst (v := nI 0) hx hb dX12_wordOf_187 (by decide) ?_
    refine r_call_l (wr := []) (va_runS (As := [.int (nI 98), .int (nI 111), .int (nI 97), .int (nI 116), .int (nI 0), .int (nI 0)]) (rest := []) ⟨hx, hb, hml, hown, hts⟩ (c_g_spelt l dC dI ky s.heap.size (nI 98) (nI 111) (nI 97) (nI 116) (nI 0) (nI 0)) (va_cwS 6 hts gX12_wordOf_X12_spelt rfl rfl rfl (by decide +kernel) ⟨(Nat.le_of_ble_eq_true rfl), (Nat.le_of_ble_eq_true rfl)⟩) (pre_US hK hP hD [] (by decide) rfl) rfl rfl hl.1 rfl (lv_room (Nat.le_of_ble_eq_true rfl)) dX12_wordOf_188 ⟨(Nat.le_of_ble_eq_true rfl), (Nat.le_of_ble_eq_true rfl)⟩) hP hD hS hA [] [] rfl rfl (by decide) (by decide) (fun r51 u49 H locs p50 hP hD hS => ?_)
    try dsimp only at p50
    have p52 := p50
    refine W.widen (k := 0) (n := 0) (Nat.le_of_ble_eq_true rfl) (Nat.le_of_ble_eq_true rfl) ?_
    have hP : va_P (dC, dI) vwCl [] H := hP
    have hD : va_D A [] := hD
    rw [hQ]
    exact W.lret (v := r51) hx hb hr (fun t9 ht9 hW9 => ⟨⟨r51, (), rfl, (lf_g_wordOf_5 x r51 c6 p52), by rw [ht9]; exact hP, va_K.moved hW9.alike hK, hD⟩, hS.F ht9⟩) hS.2.2 dX12_wordOf_191
  · refine r_ti (nI 4) c7 ?_
    rw [c7] at hl
    refine lv_tableIn (off := 191) (tgt := 192) hx hb dX12_wordOf_1 (by decide) (by decide) rfl (by decide) ?_
    refine lv_bipush (v := nI 104) hx hb dX12_wordOf_192 (by decide) ?_
    refine lv_bipush (v := nI 101) hx hb dX12_wordOf_194 (by decide) ?_
    refine lv_bipush (v := nI 97) hx hb dX12_wordOf_196 (by decide) ?_
    refine lv_bipush (v := nI 116) hx hb dX12_wordOf_198 (by decide) ?_
    refine lv_iconst (v := nI 0) hx hb dX12_wordOf_200 (by decide) ?_
    refine lv_iconst (v := nI 0) hx hb dX12_wordOf_201 (by decide) ?_
    refine r_call_l (wr := []) (va_runS (As := [.int (nI 104), .int (nI 101), .int (nI 97), .int (nI 116), .int (nI 0), .int (nI 0)]) (rest := []) ⟨hx, hb, hml, hown, hts⟩ (c_g_spelt l dC dI ky s.heap.size (nI 104) (nI 101) (nI 97) (nI 116) (nI 0) (nI 0)) (va_cwS 6 hts gX12_wordOf_X12_spelt rfl rfl rfl (by decide +kernel) ⟨(Nat.le_of_ble_eq_true rfl), (Nat.le_of_ble_eq_true rfl)⟩) (pre_US hK hP hD [] (by decide) rfl) rfl rfl hl.1 rfl (lv_room (Nat.le_of_ble_eq_true rfl)) dX12_wordOf_202 ⟨(Nat.le_of_ble_eq_true rfl), (Nat.le_of_ble_eq_true rfl)⟩) hP hD hS hA [] [] rfl rfl (by decide) (by decide) (fun r55 u53 H locs p54 hP hD hS => ?_)
    try dsimp only at p54
    have p56 := p54
    refine W.widen (k := 0) (n := 0) (Nat.le_of_ble_eq_true rfl) (Nat.le_of_ble_eq_true rfl) ?_
    have hP : va_P (dC, dI) vwCl [] H := hP
    have hD : va_D A [] := hD
    rw [hQ]
    exact W.lret (v := r55) hx hb hr (fun t9 ht9 hW9 => ⟨⟨r55, (), rfl, (lf_g_wordOf_6 x r55 c7 p56), by rw [ht9]; exact hP, va_K.moved hW9.alike hK, hD⟩, hS.F ht9⟩) hS.2.2 dX12_wordOf_205
  · refine r_ti (nI 5) c8 ?_
    rw [c8] at hl
    refine lv_tableIn (off := 205) (tgt := 206) hx hb dX12_wordOf_1 (by decide) (by decide) rfl (by decide) ?_
    refine lv_bipush (v := nI 99) hx hb dX12_wordOf_206 (by decide) ?_
    refine lv_bipush (v := nI 111) hx hb dX12_wordOf_208 (by decide) ?_
    refine lv_bipush (v := nI 111) hx hb dX12_wordOf_210 (by decide) ?_
    refine lv_bipush (v := nI 108) hx hb dX12_wordOf_212 (by decide) ?_
    refine lv_bipush (v := nI 115) hx hb dX12_wordOf_214 (by decide) ?_
    refine lv_iconst (v := nI 0) hx hb dX12_wordOf_216 (by decide) ?_
    refine r_call_l (wr := []) (va_runS (As := [.int (nI 99), .int (nI 111), .int (nI 111), .int (nI 108), .int (nI 115), .int (nI 0)]) (rest := []) ⟨hx, hb, hml, hown, hts⟩ (c_g_spelt l dC dI ky s.heap.size (nI 99) (nI 111) (nI 111) (nI 108) (nI 115) (nI 0)) (va_cwS 6 hts gX12_wordOf_X12_spelt rfl rfl rfl (by decide +kernel) ⟨(Nat.le_of_ble_eq_true rfl), (Nat.le_of_ble_eq_true rfl)⟩) (pre_US hK hP hD [] (by decide) rfl) rfl rfl hl.1 rfl (lv_room (Nat.le_of_ble_eq_true rfl)) dX12_wordOf_217 ⟨(Nat.le_of_ble_eq_true rfl), (Nat.le_of_ble_eq_true rfl)⟩) hP hD hS hA [] [] rfl rfl (by decide) (by decide) (fun r59 u57 H locs p58 hP hD hS => ?_)
    try dsimp only at p58
    have p60 := p58
    refine W.widen (k := 0) (n := 0) (Nat.le_of_ble_eq_true rfl) (Nat.le_of_ble_eq_true rfl) ?_
    have hP : va_P (dC, dI) vwCl [] H := hP
    have hD : va_D A [] := hD
    rw [hQ]
    exact W.lret (v := r59) hx hb hr (fun t9 ht9 hW9 => ⟨⟨r59, (), rfl, (lf_g_wordOf_7 x r59 c8 p60), by rw [ht9]; exact hP, va_K.moved hW9.alike hK, hD⟩, hS.F ht9⟩) hS.2.2 dX12_wordOf_220
  · refine r_ti (nI 6) c9 ?_
    rw [c9] at hl
    refine lv_tableIn (off := 220) (tgt := 221) hx hb dX12_wordOf_1 (by decide) (by decide) rfl (by decide) ?_
    refine lv_bipush (v := nI 115) hx hb dX12_wordOf_221 (by decide) ?_
    refine lv_bipush (v := nI 107) hx hb dX12_wordOf_223 (by decide) ?_
    refine lv_bipush (v := nI 105) hx hb dX12_wordOf_225 (by decide) ?_
    refine lv_bipush (v := nI 110) hx hb dX12_wordOf_227 (by decide) ?_
    refine lv_iconst (v := nI 0) hx hb dX12_wordOf_229 (by decide) ?_
    refine lv_iconst (v := nI 0) hx hb dX12_wordOf_230 (by decide) ?_
    refine r_call_l (wr := []) (va_runS (As := [.int (nI 115), .int (nI 107), .int (nI 105), .int (nI 110), .int (nI 0), .int (nI 0)]) (rest := []) ⟨hx, hb, hml, hown, hts⟩ (c_g_spelt l dC dI ky s.heap.size (nI 115) (nI 107) (nI 105) (nI 110) (nI 0) (nI 0)) (va_cwS 6 hts gX12_wordOf_X12_spelt rfl rfl rfl (by decide +kernel) ⟨(Nat.le_of_ble_eq_true rfl), (Nat.le_of_ble_eq_true rfl)⟩) (pre_US hK hP hD [] (by decide) rfl) rfl rfl hl.1 rfl (lv_room (Nat.le_of_ble_eq_true rfl)) dX12_wordOf_231 ⟨(Nat.le_of_ble_eq_true rfl), (Nat.le_of_ble_eq_true rfl)⟩) hP hD hS hA [] [] rfl rfl (by decide) (by decide) (fun r63 u61 H locs p62 hP hD hS => ?_)
    try dsimp only at p62
    have p64 := p62
    refine W.widen (k := 0) (n := 0) (Nat.le_of_ble_eq_true rfl) (Nat.le_of_ble_eq_true rfl) ?_
    have hP : va_P (dC, dI) vwCl [] H := hP
    have hD : va_D A [] := hD
    rw [hQ]
    exact W.lret (v := r63) hx hb hr (fun t9 ht9 hW9 => ⟨⟨r63, (), rfl, (lf_g_wordOf_8 x r63 c9 p64), by rw [ht9]; exact hP, va_K.moved hW9.alike hK, hD⟩, hS.F ht9⟩) hS.2.2 dX12_wordOf_234
  · refine r_ti (nI 7) c10 ?_
    rw [c10] at hl
    refine lv_tableIn (off := 234) (tgt := 235) hx hb dX12_wordOf_1 (by decide) (by decide) rfl (by decide) ?_
    refine lv_bipush (v := nI 115) hx hb dX12_wordOf_235 (by decide) ?_
    refine lv_bipush (v := nI 116) hx hb dX12_wordOf_237 (by decide) ?_
    refine lv_bipush (v := nI 105) hx hb dX12_wordOf_239 (by decide) ?_
    refine lv_bipush (v := nI 114) hx hb dX12_wordOf_241 (by decide) ?_
    refine lv_iconst (v := nI 0) hx hb dX12_wordOf_243 (by decide) ?_
    refine lv_iconst (v := nI 0) hx hb dX12_wordOf_244 (by decide) ?_
    refine r_call_l (wr := []) (va_runS (As := [.int (nI 115), .int (nI 116), .int (nI 105), .int (nI 114), .int (nI 0), .int (nI 0)]) (rest := []) ⟨hx, hb, hml, hown, hts⟩ (c_g_spelt l dC dI ky s.heap.size (nI 115) (nI 116) (nI 105) (nI 114) (nI 0) (nI 0)) (va_cwS 6 hts gX12_wordOf_X12_spelt rfl rfl rfl (by decide +kernel) ⟨(Nat.le_of_ble_eq_true rfl), (Nat.le_of_ble_eq_true rfl)⟩) (pre_US hK hP hD [] (by decide) rfl) rfl rfl hl.1 rfl (lv_room (Nat.le_of_ble_eq_true rfl)) dX12_wordOf_245 ⟨(Nat.le_of_ble_eq_true rfl), (Nat.le_of_ble_eq_true rfl)⟩) hP hD hS hA [] [] rfl rfl (by decide) (by decide) (fun r67 u65 H locs p66 hP hD hS => ?_)
    try dsimp only at p66
    have p68 := p66
    refine W.widen (k := 0) (n := 0) (Nat.le_of_ble_eq_true rfl) (Nat.le_of_ble_eq_true rfl) ?_
    have hP : va_P (dC, dI) vwCl [] H := hP
    have hD : va_D A [] := hD
    rw [hQ]
    exact W.lret (v := r67) hx hb hr (fun t9 ht9 hW9 => ⟨⟨r67, (), rfl, (lf_g_wordOf_9 x r67 c10 p68), by rw [ht9]; exact hP, va_K.moved hW9.alike hK, hD⟩, hS.F ht9⟩) hS.2.2 dX12_wordOf_248
  · refine r_ti (nI 8) c11 ?_
    rw [c11] at hl
    refine lv_tableIn (off := 248) (tgt := 249) hx hb dX12_wordOf_1 (by decide) (by decide) rfl (by decide) ?_
    refine lv_bipush (v := nI 114) hx hb dX12_wordOf_249 (by decide) ?_
    refine lv_bipush (v := nI 111) hx hb dX12_wordOf_251 (by decide) ?_
    refine lv_bipush (v := nI 119) hx hb dX12_wordOf_253 (by decide) ?_
    refine lv_iconst (v := nI 0) hx hb dX12_wordOf_255 (by decide) ?_
    refine lv_iconst (v := nI 0) hx hb dX12_wordOf_256 (by decide) ?_
    refine lv_iconst (v := nI 0) hx hb dX12_wordOf_257 (by decide) ?_
    refine r_call_l (wr := []) (va_runS (As := [.int (nI 114), .int (nI 111), .int (nI 119), .int (nI 0), .int (nI 0), .int (nI 0)]) (rest := []) ⟨hx, hb, hml, hown, hts⟩ (c_g_spelt l dC dI ky s.heap.size (nI 114) (nI 111) (nI 119) (nI 0) (nI 0) (nI 0)) (va_cwS 6 hts gX12_wordOf_X12_spelt rfl rfl rfl (by decide +kernel) ⟨(Nat.le_of_ble_eq_true rfl), (Nat.le_of_ble_eq_true rfl)⟩) (pre_US hK hP hD [] (by decide) rfl) rfl rfl hl.1 rfl (lv_room (Nat.le_of_ble_eq_true rfl)) dX12_wordOf_258 ⟨(Nat.le_of_ble_eq_true rfl), (Nat.le_of_ble_eq_true rfl)⟩) hP hD hS hA [] [] rfl rfl (by decide) (by decide) (fun r71 u69 H locs p70 hP hD hS => ?_)
    try dsimp only at p70
    have p72 := p70
    refine W.widen (k := 0) (n := 0) (Nat.le_of_ble_eq_true rfl) (Nat.le_of_ble_eq_true rfl) ?_
    have hP : va_P (dC, dI) vwCl [] H := hP
    have hD : va_D A [] := hD
    rw [hQ]
    exact W.lret (v := r71) hx hb hr (fun t9 ht9 hW9 => ⟨⟨r71, (), rfl, (lf_g_wordOf_10 x r71 c11 p72), by rw [ht9]; exact hP, va_K.moved hW9.alike hK, hD⟩, hS.F ht9⟩) hS.2.2 dX12_wordOf_261
  · refine r_ti (nI 9) c12 ?_
    rw [c12] at hl
    refine lv_tableIn (off := 261) (tgt := 262) hx hb dX12_wordOf_1 (by decide) (by decide) rfl (by decide) ?_
    refine lv_bipush (v := nI 99) hx hb dX12_wordOf_262 (by decide) ?_
    refine lv_bipush (v := nI 111) hx hb dX12_wordOf_264 (by decide) ?_
    refine lv_bipush (v := nI 108) hx hb dX12_wordOf_266 (by decide) ?_
    refine lv_bipush (v := nI 117) hx hb dX12_wordOf_268 (by decide) ?_
    refine lv_bipush (v := nI 109) hx hb dX12_wordOf_270 (by decide) ?_
    refine lv_bipush (v := nI 110) hx hb dX12_wordOf_272 (by decide) ?_
    refine r_call_l (wr := []) (va_runS (As := [.int (nI 99), .int (nI 111), .int (nI 108), .int (nI 117), .int (nI 109), .int (nI 110)]) (rest := []) ⟨hx, hb, hml, hown, hts⟩ (c_g_spelt l dC dI ky s.heap.size (nI 99) (nI 111) (nI 108) (nI 117) (nI 109) (nI 110)) (va_cwS 6 hts gX12_wordOf_X12_spelt rfl rfl rfl (by decide +kernel) ⟨(Nat.le_of_ble_eq_true rfl), (Nat.le_of_ble_eq_true rfl)⟩) (pre_US hK hP hD [] (by decide) rfl) rfl rfl hl.1 rfl (lv_room (Nat.le_of_ble_eq_true rfl)) dX12_wordOf_274 ⟨(Nat.le_of_ble_eq_true rfl), (Nat.le_of_ble_eq_true rfl)⟩) hP hD hS hA [] [] rfl rfl (by decide) (by decide) (fun r75 u73 H locs p74 hP hD hS => ?_)
    try dsimp only at p74
    have p76 := p74
    refine W.widen (k := 0) (n := 0) (Nat.le_of_ble_eq_true rfl) (Nat.le_of_ble_eq_true rfl) ?_
    have hP : va_P (dC, dI) vwCl [] H := hP
    have hD : va_D A [] := hD
    rw [hQ]
    exact W.lret (v := r75) hx hb hr (fun t9 ht9 hW9 => ⟨⟨r75, (), rfl, (lf_g_wordOf_11 x r75 c12 p76), by rw [ht9]; exact hP, va_K.moved hW9.alike hK, hD⟩, hS.F ht9⟩) hS.2.2 dX12_wordOf_277
  · refine r_ti (nI 10) c13 ?_
    rw [c13] at hl
    refine lv_tableIn (off := 277) (tgt := 278) hx hb dX12_wordOf_1 (by decide) (by decide) rfl (by decide) ?_
    refine lv_bipush (v := nI 111) hx hb dX12_wordOf_278 (by decide) ?_
    refine lv_bipush (v := nI 110) hx hb dX12_wordOf_280 (by decide) ?_
    refine lv_iconst (v := nI 0) hx hb dX12_wordOf_282 (by decide) ?_
    refine lv_iconst (v := nI 0) hx hb dX12_wordOf_283 (by decide) ?_
    refine lv_iconst (v := nI 0) hx hb dX12_wordOf_284 (by decide) ?_
    refine lv_iconst (v := nI 0) hx hb dX12_wordOf_285 (by decide) ?_
    refine r_call_l (wr := []) (va_runS (As := [.int (nI 111), .int (nI 110), .int (nI 0), .int (nI 0), .int (nI 0), .int (nI 0)]) (rest := []) ⟨hx, hb, hml, hown, hts⟩ (c_g_spelt l dC dI ky s.heap.size (nI 111) (nI 110) (nI 0) (nI 0) (nI 0) (nI 0)) (va_cwS 6 hts gX12_wordOf_X12_spelt rfl rfl rfl (by decide +kernel) ⟨(Nat.le_of_ble_eq_true rfl), (Nat.le_of_ble_eq_true rfl)⟩) (pre_US hK hP hD [] (by decide) rfl) rfl rfl hl.1 rfl (lv_room (Nat.le_of_ble_eq_true rfl)) dX12_wordOf_286 ⟨(Nat.le_of_ble_eq_true rfl), (Nat.le_of_ble_eq_true rfl)⟩) hP hD hS hA [] [] rfl rfl (by decide) (by decide) (fun r79 u77 H locs p78 hP hD hS => ?_)
    try dsimp only at p78
    have p80 := p78
    refine W.widen (k := 0) (n := 0) (Nat.le_of_ble_eq_true rfl) (Nat.le_of_ble_eq_true rfl) ?_
    have hP : va_P (dC, dI) vwCl [] H := hP
    have hD : va_D A [] := hD
    rw [hQ]
    exact W.lret (v := r79) hx hb hr (fun t9 ht9 hW9 => ⟨⟨r79, (), rfl, (lf_g_wordOf_12 x r79 c13 p80), by rw [ht9]; exact hP, va_K.moved hW9.alike hK, hD⟩, hS.F ht9⟩) hS.2.2 dX12_wordOf_289
  · refine r_ti (nI 11) c14 ?_
    rw [c14] at hl
    refine lv_tableIn (off := 289) (tgt := 290) hx hb dX12_wordOf_1 (by decide) (by decide) rfl (by decide) ?_
    refine lv_bipush (v := nI 98) hx hb dX12_wordOf_290 (by decide) ?_
    refine lv_bipush (v := nI 97) hx hb dX12_wordOf_292 (by decide) ?_
    refine lv_bipush (v := nI 99) hx hb dX12_wordOf_294 (by decide) ?_
    refine lv_bipush (v := nI 107) hx hb dX12_wordOf_296 (by decide) ?_
    refine lv_iconst (v := nI 0) hx hb dX12_wordOf_298 (by decide) ?_
    refine lv_iconst (v := nI 0) hx hb dX12_wordOf_299 (by decide) ?_
    refine r_call_l (wr := []) (va_runS (As := [.int (nI 98), .int (nI 97), .int (nI 99), .int (nI 107), .int (nI 0), .int (nI 0)]) (rest := []) ⟨hx, hb, hml, hown, hts⟩ (c_g_spelt l dC dI ky s.heap.size (nI 98) (nI 97) (nI 99) (nI 107) (nI 0) (nI 0)) (va_cwS 6 hts gX12_wordOf_X12_spelt rfl rfl rfl (by decide +kernel) ⟨(Nat.le_of_ble_eq_true rfl), (Nat.le_of_ble_eq_true rfl)⟩) (pre_US hK hP hD [] (by decide) rfl) rfl rfl hl.1 rfl (lv_room (Nat.le_of_ble_eq_true rfl)) dX12_wordOf_300 ⟨(Nat.le_of_ble_eq_true rfl), (Nat.le_of_ble_eq_true rfl)⟩) hP hD hS hA [] [] rfl rfl (by decide) (by decide) (fun r83 u81 H locs p82 hP hD hS => ?_)
    try dsimp only at p82
    have p84 := p82
    refine W.widen (k := 0) (n := 0) (Nat.le_of_ble_eq_true rfl) (Nat.le_of_ble_eq_true rfl) ?_
    have hP : va_P (dC, dI) vwCl [] H := hP
    have hD : va_D A [] := hD
    rw [hQ]
    exact W.lret (v := r83) hx hb hr (fun t9 ht9 hW9 => ⟨⟨r83, (), rfl, (lf_g_wordOf_13 x r83 c14 p84), by rw [ht9]; exact hP, va_K.moved hW9.alike hK, hD⟩, hS.F ht9⟩) hS.2.2 dX12_wordOf_303
  · refine r_ti (nI 12) c15 ?_
    rw [c15] at hl
    refine lv_tableIn (off := 303) (tgt := 304) hx hb dX12_wordOf_1 (by decide) (by decide) rfl (by decide) ?_
    refine lv_bipush (v := nI 101) hx hb dX12_wordOf_304 (by decide) ?_
    refine lv_bipush (v := nI 97) hx hb dX12_wordOf_306 (by decide) ?_
    refine lv_bipush (v := nI 115) hx hb dX12_wordOf_308 (by decide) ?_
    refine lv_bipush (v := nI 116) hx hb dX12_wordOf_310 (by decide) ?_
    refine lv_iconst (v := nI 0) hx hb dX12_wordOf_312 (by decide) ?_
    refine lv_iconst (v := nI 0) hx hb dX12_wordOf_313 (by decide) ?_
    refine r_call_l (wr := []) (va_runS (As := [.int (nI 101), .int (nI 97), .int (nI 115), .int (nI 116), .int (nI 0), .int (nI 0)]) (rest := []) ⟨hx, hb, hml, hown, hts⟩ (c_g_spelt l dC dI ky s.heap.size (nI 101) (nI 97) (nI 115) (nI 116) (nI 0) (nI 0)) (va_cwS 6 hts gX12_wordOf_X12_spelt rfl rfl rfl (by decide +kernel) ⟨(Nat.le_of_ble_eq_true rfl), (Nat.le_of_ble_eq_true rfl)⟩) (pre_US hK hP hD [] (by decide) rfl) rfl rfl hl.1 rfl (lv_room (Nat.le_of_ble_eq_true rfl)) dX12_wordOf_314 ⟨(Nat.le_of_ble_eq_true rfl), (Nat.le_of_ble_eq_true rfl)⟩) hP hD hS hA [] [] rfl rfl (by decide) (by decide) (fun r87 u85 H locs p86 hP hD hS => ?_)
    try dsimp only at p86
    have p88 := p86
    refine W.widen (k := 0) (n := 0) (Nat.le_of_ble_eq_true rfl) (Nat.le_of_ble_eq_true rfl) ?_
    have hP : va_P (dC, dI) vwCl [] H := hP
    have hD : va_D A [] := hD
    rw [hQ]
    exact W.lret (v := r87) hx hb hr (fun t9 ht9 hW9 => ⟨⟨r87, (), rfl, (lf_g_wordOf_14 x r87 c15 p88), by rw [ht9]; exact hP, va_K.moved hW9.alike hK, hD⟩, hS.F ht9⟩) hS.2.2 dX12_wordOf_317
  · refine r_ti (nI 13) c16 ?_
    rw [c16] at hl
    refine lv_tableIn (off := 317) (tgt := 318) hx hb dX12_wordOf_1 (by decide) (by decide) rfl (by decide) ?_
    refine lv_bipush (v := nI 115) hx hb dX12_wordOf_318 (by decide) ?_
    refine lv_bipush (v := nI 111) hx hb dX12_wordOf_320 (by decide) ?_
    refine lv_bipush (v := nI 117) hx hb dX12_wordOf_322 (by decide) ?_
    refine lv_bipush (v := nI 116) hx hb dX12_wordOf_324 (by decide) ?_
    refine lv_bipush (v := nI 104) hx hb dX12_wordOf_326 (by decide) ?_
    refine lv_iconst (v := nI 0) hx hb dX12_wordOf_328 (by decide) ?_
    refine r_call_l (wr := []) (va_runS (As := [.int (nI 115), .int (nI 111), .int (nI 117), .int (nI 116), .int (nI 104), .int (nI 0)]) (rest := []) ⟨hx, hb, hml, hown, hts⟩ (c_g_spelt l dC dI ky s.heap.size (nI 115) (nI 111) (nI 117) (nI 116) (nI 104) (nI 0)) (va_cwS 6 hts gX12_wordOf_X12_spelt rfl rfl rfl (by decide +kernel) ⟨(Nat.le_of_ble_eq_true rfl), (Nat.le_of_ble_eq_true rfl)⟩) (pre_US hK hP hD [] (by decide) rfl) rfl rfl hl.1 rfl (lv_room (Nat.le_of_ble_eq_true rfl)) dX12_wordOf_329 ⟨(Nat.le_of_ble_eq_true rfl), (Nat.le_of_ble_eq_true rfl)⟩) hP hD hS hA [] [] rfl rfl (by decide) (by decide) (fun r91 u89 H locs p90 hP hD hS => ?_)
    try dsimp only at p90
    have p92 := p90
    refine W.widen (k := 0) (n := 0) (Nat.le_of_ble_eq_true rfl) (Nat.le_of_ble_eq_true rfl) ?_
    have hP : va_P (dC, dI) vwCl [] H := hP
    have hD : va_D A [] := hD
    rw [hQ]
    exact W.lret (v := r91) hx hb hr (fun t9 ht9 hW9 => ⟨⟨r91, (), rfl, (lf_g_wordOf_15 x r91 c16 p92), by rw [ht9]; exact hP, va_K.moved hW9.alike hK, hD⟩, hS.F ht9⟩) hS.2.2 dX12_wordOf_332
  · refine r_ti (nI 14) c17 ?_
    rw [c17] at hl
    refine lv_tableIn (off := 332) (tgt := 333) hx hb dX12_wordOf_1 (by decide) (by decide) rfl (by decide) ?_
    refine lv_bipush (v := nI 119) hx hb dX12_wordOf_333 (by decide) ?_
    refine lv_bipush (v := nI 101) hx hb dX12_wordOf_335 (by decide) ?_
    refine lv_bipush (v := nI 115) hx hb dX12_wordOf_337 (by decide) ?_
    refine lv_bipush (v := nI 116) hx hb dX12_wordOf_339 (by decide) ?_
    refine lv_iconst (v := nI 0) hx hb dX12_wordOf_341 (by decide) ?_
    refine lv_iconst (v := nI 0) hx hb dX12_wordOf_342 (by decide) ?_
    refine r_call_l (wr := []) (va_runS (As := [.int (nI 119), .int (nI 101), .int (nI 115), .int (nI 116), .int (nI 0), .int (nI 0)]) (rest := []) ⟨hx, hb, hml, hown, hts⟩ (c_g_spelt l dC dI ky s.heap.size (nI 119) (nI 101) (nI 115) (nI 116) (nI 0) (nI 0)) (va_cwS 6 hts gX12_wordOf_X12_spelt rfl rfl rfl (by decide +kernel) ⟨(Nat.le_of_ble_eq_true rfl), (Nat.le_of_ble_eq_true rfl)⟩) (pre_US hK hP hD [] (by decide) rfl) rfl rfl hl.1 rfl (lv_room (Nat.le_of_ble_eq_true rfl)) dX12_wordOf_343 ⟨(Nat.le_of_ble_eq_true rfl), (Nat.le_of_ble_eq_true rfl)⟩) hP hD hS hA [] [] rfl rfl (by decide) (by decide) (fun r95 u93 H locs p94 hP hD hS => ?_)
    try dsimp only at p94
    have p96 := p94
    refine W.widen (k := 0) (n := 0) (Nat.le_of_ble_eq_true rfl) (Nat.le_of_ble_eq_true rfl) ?_
    have hP : va_P (dC, dI) vwCl [] H := hP
    have hD : va_D A [] := hD
    rw [hQ]
    exact W.lret (v := r95) hx hb hr (fun t9 ht9 hW9 => ⟨⟨r95, (), rfl, (lf_g_wordOf_16 x r95 c17 p96), by rw [ht9]; exact hP, va_K.moved hW9.alike hK, hD⟩, hS.F ht9⟩) hS.2.2 dX12_wordOf_346
  · refine r_ti (nI 15) c18 ?_
    rw [c18] at hl
    refine lv_tableIn (off := 346) (tgt := 347) hx hb dX12_wordOf_1 (by decide) (by decide) rfl (by decide) ?_
    refine lv_bipush (v := nI 110) hx hb dX12_wordOf_347 (by decide) ?_
    refine lv_bipush (v := nI 111) hx hb dX12_wordOf_349 (by decide) ?_
    refine lv_bipush (v := nI 114) hx hb dX12_wordOf_351 (by decide) ?_
    refine lv_bipush (v := nI 116) hx hb dX12_wordOf_353 (by decide) ?_
    refine lv_bipush (v := nI 104) hx hb dX12_wordOf_355 (by decide) ?_
    refine lv_iconst (v := nI 0) hx hb dX12_wordOf_357 (by decide) ?_
    refine r_call_l (wr := []) (va_runS (As := [.int (nI 110), .int (nI 111), .int (nI 114), .int (nI 116), .int (nI 104), .int (nI 0)]) (rest := []) ⟨hx, hb, hml, hown, hts⟩ (c_g_spelt l dC dI ky s.heap.size (nI 110) (nI 111) (nI 114) (nI 116) (nI 104) (nI 0)) (va_cwS 6 hts gX12_wordOf_X12_spelt rfl rfl rfl (by decide +kernel) ⟨(Nat.le_of_ble_eq_true rfl), (Nat.le_of_ble_eq_true rfl)⟩) (pre_US hK hP hD [] (by decide) rfl) rfl rfl hl.1 rfl (lv_room (Nat.le_of_ble_eq_true rfl)) dX12_wordOf_358 ⟨(Nat.le_of_ble_eq_true rfl), (Nat.le_of_ble_eq_true rfl)⟩) hP hD hS hA [] [] rfl rfl (by decide) (by decide) (fun r99 u97 H locs p98 hP hD hS => ?_)
    try dsimp only at p98
    have p100 := p98
    refine W.widen (k := 0) (n := 0) (Nat.le_of_ble_eq_true rfl) (Nat.le_of_ble_eq_true rfl) ?_
    have hP : va_P (dC, dI) vwCl [] H := hP
    have hD : va_D A [] := hD
    rw [hQ]
    exact W.lret (v := r99) hx hb hr (fun t9 ht9 hW9 => ⟨⟨r99, (), rfl, (lf_g_wordOf_17 x r99 c18 p100), by rw [ht9]; exact hP, va_K.moved hW9.alike hK, hD⟩, hS.F ht9⟩) hS.2.2 dX12_wordOf_361
  · refine r_ti (nI 16) c19 ?_
    rw [c19] at hl
    refine lv_tableIn (off := 361) (tgt := 362) hx hb dX12_wordOf_1 (by decide) (by decide) rfl (by decide) ?_
    refine lv_bipush (v := nI 102) hx hb dX12_wordOf_362 (by decide) ?_
    refine lv_bipush (v := nI 108) hx hb dX12_wordOf_364 (by decide) ?_
    refine lv_bipush (v := nI 111) hx hb dX12_wordOf_366 (by decide) ?_
    refine lv_bipush (v := nI 117) hx hb dX12_wordOf_368 (by decide) ?_
    refine lv_bipush (v := nI 114) hx hb dX12_wordOf_370 (by decide) ?_
    refine lv_iconst (v := nI 0) hx hb dX12_wordOf_372 (by decide) ?_
    refine r_call_l (wr := []) (va_runS (As := [.int (nI 102), .int (nI 108), .int (nI 111), .int (nI 117), .int (nI 114), .int (nI 0)]) (rest := []) ⟨hx, hb, hml, hown, hts⟩ (c_g_spelt l dC dI ky s.heap.size (nI 102) (nI 108) (nI 111) (nI 117) (nI 114) (nI 0)) (va_cwS 6 hts gX12_wordOf_X12_spelt rfl rfl rfl (by decide +kernel) ⟨(Nat.le_of_ble_eq_true rfl), (Nat.le_of_ble_eq_true rfl)⟩) (pre_US hK hP hD [] (by decide) rfl) rfl rfl hl.1 rfl (lv_room (Nat.le_of_ble_eq_true rfl)) dX12_wordOf_373 ⟨(Nat.le_of_ble_eq_true rfl), (Nat.le_of_ble_eq_true rfl)⟩) hP hD hS hA [] [] rfl rfl (by decide) (by decide) (fun r103 u101 H locs p102 hP hD hS => ?_)
    try dsimp only at p102
    have p104 := p102
    refine W.widen (k := 0) (n := 0) (Nat.le_of_ble_eq_true rfl) (Nat.le_of_ble_eq_true rfl) ?_
    have hP : va_P (dC, dI) vwCl [] H := hP
    have hD : va_D A [] := hD
    rw [hQ]
    exact W.lret (v := r103) hx hb hr (fun t9 ht9 hW9 => ⟨⟨r103, (), rfl, (lf_g_wordOf_18 x r103 c19 p104), by rw [ht9]; exact hP, va_K.moved hW9.alike hK, hD⟩, hS.F ht9⟩) hS.2.2 dX12_wordOf_376
  · refine r_ti (nI 17) c20 ?_
    rw [c20] at hl
    refine lv_tableIn (off := 376) (tgt := 377) hx hb dX12_wordOf_1 (by decide) (by decide) rfl (by decide) ?_
    refine lv_bipush (v := nI 109) hx hb dX12_wordOf_377 (by decide) ?_
    refine lv_bipush (v := nI 105) hx hb dX12_wordOf_379 (by decide) ?_
    refine lv_bipush (v := nI 108) hx hb dX12_wordOf_381 (by decide) ?_
    refine lv_bipush (v := nI 107) hx hb dX12_wordOf_383 (by decide) ?_
    refine lv_iconst (v := nI 0) hx hb dX12_wordOf_385 (by decide) ?_
    refine lv_iconst (v := nI 0) hx hb dX12_wordOf_386 (by decide) ?_
    refine r_call_l (wr := []) (va_runS (As := [.int (nI 109), .int (nI 105), .int (nI 108), .int (nI 107), .int (nI 0), .int (nI 0)]) (rest := []) ⟨hx, hb, hml, hown, hts⟩ (c_g_spelt l dC dI ky s.heap.size (nI 109) (nI 105) (nI 108) (nI 107) (nI 0) (nI 0)) (va_cwS 6 hts gX12_wordOf_X12_spelt rfl rfl rfl (by decide +kernel) ⟨(Nat.le_of_ble_eq_true rfl), (Nat.le_of_ble_eq_true rfl)⟩) (pre_US hK hP hD [] (by decide) rfl) rfl rfl hl.1 rfl (lv_room (Nat.le_of_ble_eq_true rfl)) dX12_wordOf_387 ⟨(Nat.le_of_ble_eq_true rfl), (Nat.le_of_ble_eq_true rfl)⟩) hP hD hS hA [] [] rfl rfl (by decide) (by decide) (fun r107 u105 H locs p106 hP hD hS => ?_)
    try dsimp only at p106
    have p108 := p106
    refine W.widen (k := 0) (n := 0) (Nat.le_of_ble_eq_true rfl) (Nat.le_of_ble_eq_true rfl) ?_
    have hP : va_P (dC, dI) vwCl [] H := hP
    have hD : va_D A [] := hD
    rw [hQ]
    exact W.lret (v := r107) hx hb hr (fun t9 ht9 hW9 => ⟨⟨r107, (), rfl, (lf_g_wordOf_19 x r107 c20 p108), by rw [ht9]; exact hP, va_K.moved hW9.alike hK, hD⟩, hS.F ht9⟩) hS.2.2 dX12_wordOf_390
  · refine r_ti (nI 18) c21 ?_
    rw [c21] at hl
    refine lv_tableIn (off := 390) (tgt := 391) hx hb dX12_wordOf_1 (by decide) (by decide) rfl (by decide) ?_
    refine lv_bipush (v := nI 115) hx hb dX12_wordOf_391 (by decide) ?_
    refine lv_bipush (v := nI 116) hx hb dX12_wordOf_393 (by decide) ?_
    refine lv_bipush (v := nI 111) hx hb dX12_wordOf_395 (by decide) ?_
    refine lv_bipush (v := nI 118) hx hb dX12_wordOf_397 (by decide) ?_
    refine lv_bipush (v := nI 101) hx hb dX12_wordOf_399 (by decide) ?_
    refine lv_iconst (v := nI 0) hx hb dX12_wordOf_401 (by decide) ?_
    refine r_call_l (wr := []) (va_runS (As := [.int (nI 115), .int (nI 116), .int (nI 111), .int (nI 118), .int (nI 101), .int (nI 0)]) (rest := []) ⟨hx, hb, hml, hown, hts⟩ (c_g_spelt l dC dI ky s.heap.size (nI 115) (nI 116) (nI 111) (nI 118) (nI 101) (nI 0)) (va_cwS 6 hts gX12_wordOf_X12_spelt rfl rfl rfl (by decide +kernel) ⟨(Nat.le_of_ble_eq_true rfl), (Nat.le_of_ble_eq_true rfl)⟩) (pre_US hK hP hD [] (by decide) rfl) rfl rfl hl.1 rfl (lv_room (Nat.le_of_ble_eq_true rfl)) dX12_wordOf_402 ⟨(Nat.le_of_ble_eq_true rfl), (Nat.le_of_ble_eq_true rfl)⟩) hP hD hS hA [] [] rfl rfl (by decide) (by decide) (fun r111 u109 H locs p110 hP hD hS => ?_)
    try dsimp only at p110
    have p112 := p110
    refine W.widen (k := 0) (n := 0) (Nat.le_of_ble_eq_true rfl) (Nat.le_of_ble_eq_true rfl) ?_
    have hP : va_P (dC, dI) vwCl [] H := hP
    have hD : va_D A [] := hD
    rw [hQ]
    exact W.lret (v := r111) hx hb hr (fun t9 ht9 hW9 => ⟨⟨r111, (), rfl, (lf_g_wordOf_20 x r111 c21 p112), by rw [ht9]; exact hP, va_K.moved hW9.alike hK, hD⟩, hS.F ht9⟩) hS.2.2 dX12_wordOf_405
  · refine r_ti (nI 19) c22 ?_
    rw [c22] at hl
    refine lv_tableIn (off := 405) (tgt := 406) hx hb dX12_wordOf_1 (by decide) (by decide) rfl (by decide) ?_
    refine lv_bipush (v := nI 100) hx hb dX12_wordOf_406 (by decide) ?_
    refine lv_bipush (v := nI 97) hx hb dX12_wordOf_408 (by decide) ?_
    refine lv_bipush (v := nI 121) hx hb dX12_wordOf_410 (by decide) ?_
    refine lv_iconst (v := nI 0) hx hb dX12_wordOf_412 (by decide) ?_
    refine lv_iconst (v := nI 0) hx hb dX12_wordOf_413 (by decide) ?_
    refine lv_iconst (v := nI 0) hx hb dX12_wordOf_414 (by decide) ?_
    refine r_call_l (wr := []) (va_runS (As := [.int (nI 100), .int (nI 97), .int (nI 121), .int (nI 0), .int (nI 0), .int (nI 0)]) (rest := []) ⟨hx, hb, hml, hown, hts⟩ (c_g_spelt l dC dI ky s.heap.size (nI 100) (nI 97) (nI 121) (nI 0) (nI 0) (nI 0)) (va_cwS 6 hts gX12_wordOf_X12_spelt rfl rfl rfl (by decide +kernel) ⟨(Nat.le_of_ble_eq_true rfl), (Nat.le_of_ble_eq_true rfl)⟩) (pre_US hK hP hD [] (by decide) rfl) rfl rfl hl.1 rfl (lv_room (Nat.le_of_ble_eq_true rfl)) dX12_wordOf_415 ⟨(Nat.le_of_ble_eq_true rfl), (Nat.le_of_ble_eq_true rfl)⟩) hP hD hS hA [] [] rfl rfl (by decide) (by decide) (fun r115 u113 H locs p114 hP hD hS => ?_)
    try dsimp only at p114
    have p116 := p114
    refine W.widen (k := 0) (n := 0) (Nat.le_of_ble_eq_true rfl) (Nat.le_of_ble_eq_true rfl) ?_
    have hP : va_P (dC, dI) vwCl [] H := hP
    have hD : va_D A [] := hD
    rw [hQ]
    exact W.lret (v := r115) hx hb hr (fun t9 ht9 hW9 => ⟨⟨r115, (), rfl, (lf_g_wordOf_21 x r115 c22 p116), by rw [ht9]; exact hP, va_K.moved hW9.alike hK, hD⟩, hS.F ht9⟩) hS.2.2 dX12_wordOf_418
  · refine r_ti (nI 20) c23 ?_
    rw [c23] at hl
    refine lv_tableIn (off := 418) (tgt := 419) hx hb dX12_wordOf_1 (by decide) (by decide) rfl (by decide) ?_
    refine lv_bipush (v := nI 111) hx hb dX12_wordOf_419 (by decide) ?_
    refine lv_bipush (v := nI 114) hx hb dX12_wordOf_421 (by decide) ?_
    refine lv_iconst (v := nI 0) hx hb dX12_wordOf_423 (by decide) ?_
    refine lv_iconst (v := nI 0) hx hb dX12_wordOf_424 (by decide) ?_
    refine lv_iconst (v := nI 0) hx hb dX12_wordOf_425 (by decide) ?_
    refine lv_iconst (v := nI 0) hx hb dX12_wordOf_426 (by decide) ?_
    refine r_call_l (wr := []) (va_runS (As := [.int (nI 111), .int (nI 114), .int (nI 0), .int (nI 0), .int (nI 0), .int (nI 0)]) (rest := []) ⟨hx, hb, hml, hown, hts⟩ (c_g_spelt l dC dI ky s.heap.size (nI 111) (nI 114) (nI 0) (nI 0) (nI 0) (nI 0)) (va_cwS 6 hts gX12_wordOf_X12_spelt rfl rfl rfl (by decide +kernel) ⟨(Nat.le_of_ble_eq_true rfl), (Nat.le_of_ble_eq_true rfl)⟩) (pre_US hK hP hD [] (by decide) rfl) rfl rfl hl.1 rfl (lv_room (Nat.le_of_ble_eq_true rfl)) dX12_wordOf_427 ⟨(Nat.le_of_ble_eq_true rfl), (Nat.le_of_ble_eq_true rfl)⟩) hP hD hS hA [] [] rfl rfl (by decide) (by decide) (fun r119 u117 H locs p118 hP hD hS => ?_)
    try dsimp only at p118
    have p120 := p118
    refine W.widen (k := 0) (n := 0) (Nat.le_of_ble_eq_true rfl) (Nat.le_of_ble_eq_true rfl) ?_
    have hP : va_P (dC, dI) vwCl [] H := hP
    have hD : va_D A [] := hD
    rw [hQ]
    exact W.lret (v := r119) hx hb hr (fun t9 ht9 hW9 => ⟨⟨r119, (), rfl, (lf_g_wordOf_22 x r119 c23 p120), by rw [ht9]; exact hP, va_K.moved hW9.alike hK, hD⟩, hS.F ht9⟩) hS.2.2 dX12_wordOf_430
  · refine r_ti (nI 21) c24 ?_
    rw [c24] at hl
    refine lv_tableIn (off := 430) (tgt := 431) hx hb dX12_wordOf_1 (by decide) (by decide) rfl (by decide) ?_
    refine lv_bipush (v := nI 97) hx hb dX12_wordOf_431 (by decide) ?_
    refine lv_bipush (v := nI 110) hx hb dX12_wordOf_433 (by decide) ?_
    refine lv_bipush (v := nI 100) hx hb dX12_wordOf_435 (by decide) ?_
    refine lv_iconst (v := nI 0) hx hb dX12_wordOf_437 (by decide) ?_
    refine lv_iconst (v := nI 0) hx hb dX12_wordOf_438 (by decide) ?_
    refine lv_iconst (v := nI 0) hx hb dX12_wordOf_439 (by decide) ?_
    refine r_call_l (wr := []) (va_runS (As := [.int (nI 97), .int (nI 110), .int (nI 100), .int (nI 0), .int (nI 0), .int (nI 0)]) (rest := []) ⟨hx, hb, hml, hown, hts⟩ (c_g_spelt l dC dI ky s.heap.size (nI 97) (nI 110) (nI 100) (nI 0) (nI 0) (nI 0)) (va_cwS 6 hts gX12_wordOf_X12_spelt rfl rfl rfl (by decide +kernel) ⟨(Nat.le_of_ble_eq_true rfl), (Nat.le_of_ble_eq_true rfl)⟩) (pre_US hK hP hD [] (by decide) rfl) rfl rfl hl.1 rfl (lv_room (Nat.le_of_ble_eq_true rfl)) dX12_wordOf_440 ⟨(Nat.le_of_ble_eq_true rfl), (Nat.le_of_ble_eq_true rfl)⟩) hP hD hS hA [] [] rfl rfl (by decide) (by decide) (fun r123 u121 H locs p122 hP hD hS => ?_)
    try dsimp only at p122
    have p124 := p122
    refine W.widen (k := 0) (n := 0) (Nat.le_of_ble_eq_true rfl) (Nat.le_of_ble_eq_true rfl) ?_
    have hP : va_P (dC, dI) vwCl [] H := hP
    have hD : va_D A [] := hD
    rw [hQ]
    exact W.lret (v := r123) hx hb hr (fun t9 ht9 hW9 => ⟨⟨r123, (), rfl, (lf_g_wordOf_23 x r123 c24 p124), by rw [ht9]; exact hP, va_K.moved hW9.alike hK, hD⟩, hS.F ht9⟩) hS.2.2 dX12_wordOf_443
  · refine r_ti (nI 22) c25 ?_
    rw [c25] at hl
    refine lv_tableIn (off := 443) (tgt := 444) hx hb dX12_wordOf_1 (by decide) (by decide) rfl (by decide) ?_
    refine lv_bipush (v := nI 110) hx hb dX12_wordOf_444 (by decide) ?_
    refine lv_bipush (v := nI 111) hx hb dX12_wordOf_446 (by decide) ?_
    refine lv_bipush (v := nI 116) hx hb dX12_wordOf_448 (by decide) ?_
    refine lv_iconst (v := nI 0) hx hb dX12_wordOf_450 (by decide) ?_
    refine lv_iconst (v := nI 0) hx hb dX12_wordOf_451 (by decide) ?_
    refine lv_iconst (v := nI 0) hx hb dX12_wordOf_452 (by decide) ?_
    refine r_call_l (wr := []) (va_runS (As := [.int (nI 110), .int (nI 111), .int (nI 116), .int (nI 0), .int (nI 0), .int (nI 0)]) (rest := []) ⟨hx, hb, hml, hown, hts⟩ (c_g_spelt l dC dI ky s.heap.size (nI 110) (nI 111) (nI 116) (nI 0) (nI 0) (nI 0)) (va_cwS 6 hts gX12_wordOf_X12_spelt rfl rfl rfl (by decide +kernel) ⟨(Nat.le_of_ble_eq_true rfl), (Nat.le_of_ble_eq_true rfl)⟩) (pre_US hK hP hD [] (by decide) rfl) rfl rfl hl.1 rfl (lv_room (Nat.le_of_ble_eq_true rfl)) dX12_wordOf_453 ⟨(Nat.le_of_ble_eq_true rfl), (Nat.le_of_ble_eq_true rfl)⟩) hP hD hS hA [] [] rfl rfl (by decide) (by decide) (fun r127 u125 H locs p126 hP hD hS => ?_)
    try dsimp only at p126
    have p128 := p126
    refine W.widen (k := 0) (n := 0) (Nat.le_of_ble_eq_true rfl) (Nat.le_of_ble_eq_true rfl) ?_
    have hP : va_P (dC, dI) vwCl [] H := hP
    have hD : va_D A [] := hD
    rw [hQ]
    exact W.lret (v := r127) hx hb hr (fun t9 ht9 hW9 => ⟨⟨r127, (), rfl, (lf_g_wordOf_24 x r127 c25 p128), by rw [ht9]; exact hP, va_K.moved hW9.alike hK, hD⟩, hS.F ht9⟩) hS.2.2 dX12_wordOf_456
  · refine r_ti (nI 23) c26 ?_
    rw [c26] at hl
    refine lv_tableIn (off := 456) (tgt := 457) hx hb dX12_wordOf_1 (by decide) (by decide) rfl (by decide) ?_
    refine lv_bipush (v := nI 101) hx hb dX12_wordOf_457 (by decide) ?_
    refine lv_bipush (v := nI 97) hx hb dX12_wordOf_459 (by decide) ?_
    refine lv_bipush (v := nI 116) hx hb dX12_wordOf_461 (by decide) ?_
    refine lv_bipush (v := nI 101) hx hb dX12_wordOf_463 (by decide) ?_
    refine lv_bipush (v := nI 110) hx hb dX12_wordOf_465 (by decide) ?_
    refine lv_iconst (v := nI 0) hx hb dX12_wordOf_467 (by decide) ?_
    refine r_call_l (wr := []) (va_runS (As := [.int (nI 101), .int (nI 97), .int (nI 116), .int (nI 101), .int (nI 110), .int (nI 0)]) (rest := []) ⟨hx, hb, hml, hown, hts⟩ (c_g_spelt l dC dI ky s.heap.size (nI 101) (nI 97) (nI 116) (nI 101) (nI 110) (nI 0)) (va_cwS 6 hts gX12_wordOf_X12_spelt rfl rfl rfl (by decide +kernel) ⟨(Nat.le_of_ble_eq_true rfl), (Nat.le_of_ble_eq_true rfl)⟩) (pre_US hK hP hD [] (by decide) rfl) rfl rfl hl.1 rfl (lv_room (Nat.le_of_ble_eq_true rfl)) dX12_wordOf_468 ⟨(Nat.le_of_ble_eq_true rfl), (Nat.le_of_ble_eq_true rfl)⟩) hP hD hS hA [] [] rfl rfl (by decide) (by decide) (fun r131 u129 H locs p130 hP hD hS => ?_)
    try dsimp only at p130
    have p132 := p130
    refine W.widen (k := 0) (n := 0) (Nat.le_of_ble_eq_true rfl) (Nat.le_of_ble_eq_true rfl) ?_
    have hP : va_P (dC, dI) vwCl [] H := hP
    have hD : va_D A [] := hD
    rw [hQ]
    exact W.lret (v := r131) hx hb hr (fun t9 ht9 hW9 => ⟨⟨r131, (), rfl, (lf_g_wordOf_25 x r131 c26 p132), by rw [ht9]; exact hP, va_K.moved hW9.alike hK, hD⟩, hS.F ht9⟩) hS.2.2 dX12_wordOf_471
  · refine r_ti (nI 24) c27 ?_
    rw [c27] at hl
    refine lv_tableIn (off := 471) (tgt := 472) hx hb dX12_wordOf_1 (by decide) (by decide) rfl (by decide) ?_
    refine lv_bipush (v := nI 97) hx hb dX12_wordOf_472 (by decide) ?_
    refine lv_bipush (v := nI 102) hx hb dX12_wordOf_474 (by decide) ?_
    refine lv_bipush (v := nI 108) hx hb dX12_wordOf_476 (by decide) ?_
    refine lv_bipush (v := nI 111) hx hb dX12_wordOf_478 (by decide) ?_
    refine lv_bipush (v := nI 97) hx hb dX12_wordOf_480 (by decide) ?_
    refine lv_bipush (v := nI 116) hx hb dX12_wordOf_482 (by decide) ?_
    refine r_call_l (wr := []) (va_runS (As := [.int (nI 97), .int (nI 102), .int (nI 108), .int (nI 111), .int (nI 97), .int (nI 116)]) (rest := []) ⟨hx, hb, hml, hown, hts⟩ (c_g_spelt l dC dI ky s.heap.size (nI 97) (nI 102) (nI 108) (nI 111) (nI 97) (nI 116)) (va_cwS 6 hts gX12_wordOf_X12_spelt rfl rfl rfl (by decide +kernel) ⟨(Nat.le_of_ble_eq_true rfl), (Nat.le_of_ble_eq_true rfl)⟩) (pre_US hK hP hD [] (by decide) rfl) rfl rfl hl.1 rfl (lv_room (Nat.le_of_ble_eq_true rfl)) dX12_wordOf_484 ⟨(Nat.le_of_ble_eq_true rfl), (Nat.le_of_ble_eq_true rfl)⟩) hP hD hS hA [] [] rfl rfl (by decide) (by decide) (fun r135 u133 H locs p134 hP hD hS => ?_)
    try dsimp only at p134
    have p136 := p134
    refine W.widen (k := 0) (n := 0) (Nat.le_of_ble_eq_true rfl) (Nat.le_of_ble_eq_true rfl) ?_
    have hP : va_P (dC, dI) vwCl [] H := hP
    have hD : va_D A [] := hD
    rw [hQ]
    exact W.lret (v := r135) hx hb hr (fun t9 ht9 hW9 => ⟨⟨r135, (), rfl, (lf_g_wordOf_26 x r135 c27 p136), by rw [ht9]; exact hP, va_K.moved hW9.alike hK, hD⟩, hS.F ht9⟩) hS.2.2 dX12_wordOf_487
  · refine r_ti (nI 25) c28 ?_
    rw [c28] at hl
    refine lv_tableIn (off := 487) (tgt := 488) hx hb dX12_wordOf_1 (by decide) (by decide) rfl (by decide) ?_
    refine lv_bipush (v := nI 108) hx hb dX12_wordOf_488 (by decide) ?_
    refine lv_bipush (v := nI 97) hx hb dX12_wordOf_490 (by decide) ?_
    refine lv_bipush (v := nI 110) hx hb dX12_wordOf_492 (by decide) ?_
    refine lv_bipush (v := nI 100) hx hb dX12_wordOf_494 (by decide) ?_
    refine lv_bipush (v := nI 101) hx hb dX12_wordOf_496 (by decide) ?_
    refine lv_bipush (v := nI 100) hx hb dX12_wordOf_498 (by decide) ?_
    refine r_call_l (wr := []) (va_runS (As := [.int (nI 108), .int (nI 97), .int (nI 110), .int (nI 100), .int (nI 101), .int (nI 100)]) (rest := []) ⟨hx, hb, hml, hown, hts⟩ (c_g_spelt l dC dI ky s.heap.size (nI 108) (nI 97) (nI 110) (nI 100) (nI 101) (nI 100)) (va_cwS 6 hts gX12_wordOf_X12_spelt rfl rfl rfl (by decide +kernel) ⟨(Nat.le_of_ble_eq_true rfl), (Nat.le_of_ble_eq_true rfl)⟩) (pre_US hK hP hD [] (by decide) rfl) rfl rfl hl.1 rfl (lv_room (Nat.le_of_ble_eq_true rfl)) dX12_wordOf_500 ⟨(Nat.le_of_ble_eq_true rfl), (Nat.le_of_ble_eq_true rfl)⟩) hP hD hS hA [] [] rfl rfl (by decide) (by decide) (fun r139 u137 H locs p138 hP hD hS => ?_)
    try dsimp only at p138
    have p140 := p138
    refine W.widen (k := 0) (n := 0) (Nat.le_of_ble_eq_true rfl) (Nat.le_of_ble_eq_true rfl) ?_
    have hP : va_P (dC, dI) vwCl [] H := hP
    have hD : va_D A [] := hD
    rw [hQ]
    exact W.lret (v := r139) hx hb hr (fun t9 ht9 hW9 => ⟨⟨r139, (), rfl, (lf_g_wordOf_27 x r139 c28 p140), by rw [ht9]; exact hP, va_K.moved hW9.alike hK, hD⟩, hS.F ht9⟩) hS.2.2 dX12_wordOf_503
  · refine r_ti (nI 26) c29 ?_
    rw [c29] at hl
    refine lv_tableIn (off := 503) (tgt := 504) hx hb dX12_wordOf_1 (by decide) (by decide) rfl (by decide) ?_
    refine lv_bipush (v := nI 98) hx hb dX12_wordOf_504 (by decide) ?_
    refine lv_bipush (v := nI 121) hx hb dX12_wordOf_506 (by decide) ?_
    refine lv_iconst (v := nI 0) hx hb dX12_wordOf_508 (by decide) ?_
    refine lv_iconst (v := nI 0) hx hb dX12_wordOf_509 (by decide) ?_
    refine lv_iconst (v := nI 0) hx hb dX12_wordOf_510 (by decide) ?_
    refine lv_iconst (v := nI 0) hx hb dX12_wordOf_511 (by decide) ?_
    refine r_call_l (wr := []) (va_runS (As := [.int (nI 98), .int (nI 121), .int (nI 0), .int (nI 0), .int (nI 0), .int (nI 0)]) (rest := []) ⟨hx, hb, hml, hown, hts⟩ (c_g_spelt l dC dI ky s.heap.size (nI 98) (nI 121) (nI 0) (nI 0) (nI 0) (nI 0)) (va_cwS 6 hts gX12_wordOf_X12_spelt rfl rfl rfl (by decide +kernel) ⟨(Nat.le_of_ble_eq_true rfl), (Nat.le_of_ble_eq_true rfl)⟩) (pre_US hK hP hD [] (by decide) rfl) rfl rfl hl.1 rfl (lv_room (Nat.le_of_ble_eq_true rfl)) dX12_wordOf_512 ⟨(Nat.le_of_ble_eq_true rfl), (Nat.le_of_ble_eq_true rfl)⟩) hP hD hS hA [] [] rfl rfl (by decide) (by decide) (fun r143 u141 H locs p142 hP hD hS => ?_)
    try dsimp only at p142
    have p144 := p142
    refine W.widen (k := 0) (n := 0) (Nat.le_of_ble_eq_true rfl) (Nat.le_of_ble_eq_true rfl) ?_
    have hP : va_P (dC, dI) vwCl [] H := hP
    have hD : va_D A [] := hD
    rw [hQ]
    exact W.lret (v := r143) hx hb hr (fun t9 ht9 hW9 => ⟨⟨r143, (), rfl, (lf_g_wordOf_28 x r143 c29 p144), by rw [ht9]; exact hP, va_K.moved hW9.alike hK, hD⟩, hS.F ht9⟩) hS.2.2 dX12_wordOf_515
  · refine r_ti (nI 27) c30 ?_
    rw [c30] at hl
    refine lv_tableIn (off := 515) (tgt := 516) hx hb dX12_wordOf_1 (by decide) (by decide) rfl (by decide) ?_
    refine lv_bipush (v := nI 108) hx hb dX12_wordOf_516 (by decide) ?_
    refine lv_bipush (v := nI 111) hx hb dX12_wordOf_518 (by decide) ?_
    refine lv_bipush (v := nI 97) hx hb dX12_wordOf_520 (by decide) ?_
    refine lv_bipush (v := nI 100) hx hb dX12_wordOf_522 (by decide) ?_
    refine lv_iconst (v := nI 0) hx hb dX12_wordOf_524 (by decide) ?_
    refine lv_iconst (v := nI 0) hx hb dX12_wordOf_525 (by decide) ?_
    refine r_call_l (wr := []) (va_runS (As := [.int (nI 108), .int (nI 111), .int (nI 97), .int (nI 100), .int (nI 0), .int (nI 0)]) (rest := []) ⟨hx, hb, hml, hown, hts⟩ (c_g_spelt l dC dI ky s.heap.size (nI 108) (nI 111) (nI 97) (nI 100) (nI 0) (nI 0)) (va_cwS 6 hts gX12_wordOf_X12_spelt rfl rfl rfl (by decide +kernel) ⟨(Nat.le_of_ble_eq_true rfl), (Nat.le_of_ble_eq_true rfl)⟩) (pre_US hK hP hD [] (by decide) rfl) rfl rfl hl.1 rfl (lv_room (Nat.le_of_ble_eq_true rfl)) dX12_wordOf_526 ⟨(Nat.le_of_ble_eq_true rfl), (Nat.le_of_ble_eq_true rfl)⟩) hP hD hS hA [] [] rfl rfl (by decide) (by decide) (fun r147 u145 H locs p146 hP hD hS => ?_)
    try dsimp only at p146
    have p148 := p146
    refine W.widen (k := 0) (n := 0) (Nat.le_of_ble_eq_true rfl) (Nat.le_of_ble_eq_true rfl) ?_
    have hP : va_P (dC, dI) vwCl [] H := hP
    have hD : va_D A [] := hD
    rw [hQ]
    exact W.lret (v := r147) hx hb hr (fun t9 ht9 hW9 => ⟨⟨r147, (), rfl, (lf_g_wordOf_29 x r147 c30 p148), by rw [ht9]; exact hP, va_K.moved hW9.alike hK, hD⟩, hS.F ht9⟩) hS.2.2 dX12_wordOf_529
  · refine r_ti (nI 28) c31 ?_
    rw [c31] at hl
    refine lv_tableIn (off := 529) (tgt := 530) hx hb dX12_wordOf_1 (by decide) (by decide) rfl (by decide) ?_
    refine lv_bipush (v := nI 100) hx hb dX12_wordOf_530 (by decide) ?_
    refine lv_bipush (v := nI 101) hx hb dX12_wordOf_532 (by decide) ?_
    refine lv_bipush (v := nI 112) hx hb dX12_wordOf_534 (by decide) ?_
    refine lv_bipush (v := nI 116) hx hb dX12_wordOf_536 (by decide) ?_
    refine lv_bipush (v := nI 104) hx hb dX12_wordOf_538 (by decide) ?_
    refine lv_iconst (v := nI 0) hx hb dX12_wordOf_540 (by decide) ?_
    refine r_call_l (wr := []) (va_runS (As := [.int (nI 100), .int (nI 101), .int (nI 112), .int (nI 116), .int (nI 104), .int (nI 0)]) (rest := []) ⟨hx, hb, hml, hown, hts⟩ (c_g_spelt l dC dI ky s.heap.size (nI 100) (nI 101) (nI 112) (nI 116) (nI 104) (nI 0)) (va_cwS 6 hts gX12_wordOf_X12_spelt rfl rfl rfl (by decide +kernel) ⟨(Nat.le_of_ble_eq_true rfl), (Nat.le_of_ble_eq_true rfl)⟩) (pre_US hK hP hD [] (by decide) rfl) rfl rfl hl.1 rfl (lv_room (Nat.le_of_ble_eq_true rfl)) dX12_wordOf_541 ⟨(Nat.le_of_ble_eq_true rfl), (Nat.le_of_ble_eq_true rfl)⟩) hP hD hS hA [] [] rfl rfl (by decide) (by decide) (fun r151 u149 H locs p150 hP hD hS => ?_)
    try dsimp only at p150
    have p152 := p150
    refine W.widen (k := 0) (n := 0) (Nat.le_of_ble_eq_true rfl) (Nat.le_of_ble_eq_true rfl) ?_
    have hP : va_P (dC, dI) vwCl [] H := hP
    have hD : va_D A [] := hD
    rw [hQ]
    exact W.lret (v := r151) hx hb hr (fun t9 ht9 hW9 => ⟨⟨r151, (), rfl, (lf_g_wordOf_30 x r151 c31 p152), by rw [ht9]; exact hP, va_K.moved hW9.alike hK, hD⟩, hS.F ht9⟩) hS.2.2 dX12_wordOf_544
  · refine r_ti (nI 29) c32 ?_
    rw [c32] at hl
    refine lv_tableIn (off := 544) (tgt := 545) hx hb dX12_wordOf_1 (by decide) (by decide) rfl (by decide) ?_
    refine lv_bipush (v := nI 108) hx hb dX12_wordOf_545 (by decide) ?_
    refine lv_bipush (v := nI 101) hx hb dX12_wordOf_547 (by decide) ?_
    refine lv_bipush (v := nI 102) hx hb dX12_wordOf_549 (by decide) ?_
    refine lv_bipush (v := nI 116) hx hb dX12_wordOf_551 (by decide) ?_
    refine lv_iconst (v := nI 0) hx hb dX12_wordOf_553 (by decide) ?_
    refine lv_iconst (v := nI 0) hx hb dX12_wordOf_554 (by decide) ?_
    refine r_call_l (wr := []) (va_runS (As := [.int (nI 108), .int (nI 101), .int (nI 102), .int (nI 116), .int (nI 0), .int (nI 0)]) (rest := []) ⟨hx, hb, hml, hown, hts⟩ (c_g_spelt l dC dI ky s.heap.size (nI 108) (nI 101) (nI 102) (nI 116) (nI 0) (nI 0)) (va_cwS 6 hts gX12_wordOf_X12_spelt rfl rfl rfl (by decide +kernel) ⟨(Nat.le_of_ble_eq_true rfl), (Nat.le_of_ble_eq_true rfl)⟩) (pre_US hK hP hD [] (by decide) rfl) rfl rfl hl.1 rfl (lv_room (Nat.le_of_ble_eq_true rfl)) dX12_wordOf_555 ⟨(Nat.le_of_ble_eq_true rfl), (Nat.le_of_ble_eq_true rfl)⟩) hP hD hS hA [] [] rfl rfl (by decide) (by decide) (fun r155 u153 H locs p154 hP hD hS => ?_)
    try dsimp only at p154
    have p156 := p154
    refine W.widen (k := 0) (n := 0) (Nat.le_of_ble_eq_true rfl) (Nat.le_of_ble_eq_true rfl) ?_
    have hP : va_P (dC, dI) vwCl [] H := hP
    have hD : va_D A [] := hD
    rw [hQ]
    exact W.lret (v := r155) hx hb hr (fun t9 ht9 hW9 => ⟨⟨r155, (), rfl, (lf_g_wordOf_31 x r155 c32 p156), by rw [ht9]; exact hP, va_K.moved hW9.alike hK, hD⟩, hS.F ht9⟩) hS.2.2 dX12_wordOf_558
set_option maxRecDepth 20000 in
theorem lf_g_isWord0_1 (bt : Nat → Nat) (ksize : Nat) (klimit : Nat) (kto : Nat) (kfrom : Nat) (kkind : Int32) (knumber : Int32) (ksign : Int32) (kword : Int64) (ktapeF : Nat → Int32) (hp : Nat) (iv_ko_1 : ksize ≤ 940) (iv_ko_2 : klimit ≤ 900) (iv_ko_3 : kto ≤ ksize) (iv_ko_4 : kfrom ≤ 940) (hTM : TM bt ktapeF) (hMT : MT bt ksize klimit hp kkind ksign kfrom kto knumber kword) (c1 : kkind ≠ nI 2) : ((nI 0) = nI 1 ∧ (tW bt ksize klimit hp = 0)) ∨ ((nI 0) = nI 0 ∧ (¬ tW bt ksize klimit hp = 0)) := by
  first
    | (refine Or.inl ⟨rfl, isW_t hMT (by decide) (by assumption) (by assumption) ?_⟩; subst_vars; exact (lg0 _ _).mp (by first | assumption | exact Eq.symm (by assumption)))
    | (refine Or.inr ⟨rfl, isW_f hMT (by decide) (by assumption) (fun z => ?_)⟩; subst_vars; exact absurd ((lg0 _ _).mpr rfl) (by assumption))
    | exact Or.inr ⟨rfl, isW_n hMT (by decide) (by assumption)⟩
set_option maxRecDepth 20000 in
theorem lf_g_isWord0_2 (bt : Nat → Nat) (ksize : Nat) (klimit : Nat) (kto : Nat) (kfrom : Nat) (kkind : Int32) (knumber : Int32) (ksign : Int32) (kword : Int64) (ktapeF : Nat → Int32) (hp : Nat) (r4 : Int64) (y6 : Int32) (iv_ko_1 : ksize ≤ 940) (iv_ko_2 : klimit ≤ 900) (iv_ko_3 : kto ≤ ksize) (iv_ko_4 : kfrom ≤ 940) (hTM : TM bt ktapeF) (hMT : MT bt ksize klimit hp kkind ksign kfrom kto knumber kword) (c1 : kkind = nI 2) (p5 : WOf (nI 0) r4) (e7 : y6 = lg_cmp kword r4) (c8 : y6 ≠ 0) : ((nI 0) = nI 1 ∧ (tW bt ksize klimit hp = 0)) ∨ ((nI 0) = nI 0 ∧ (¬ tW bt ksize klimit hp = 0)) := by
  first
    | (refine Or.inl ⟨rfl, isW_t hMT (by decide) (by assumption) (by assumption) ?_⟩; subst_vars; exact (lg0 _ _).mp (by first | assumption | exact Eq.symm (by assumption)))
    | (refine Or.inr ⟨rfl, isW_f hMT (by decide) (by assumption) (fun z => ?_)⟩; subst_vars; exact absurd ((lg0 _ _).mpr rfl) (by assumption))
    | exact Or.inr ⟨rfl, isW_n hMT (by decide) (by assumption)⟩
set_option maxRecDepth 20000 in
theorem lf_g_isWord0_3 (bt : Nat → Nat) (ksize : Nat) (klimit : Nat) (kto : Nat) (kfrom : Nat) (kkind : Int32) (knumber : Int32) (ksign : Int32) (kword : Int64) (ktapeF : Nat → Int32) (hp : Nat) (r4 : Int64) (y6 : Int32) (iv_ko_1 : ksize ≤ 940) (iv_ko_2 : klimit ≤ 900) (iv_ko_3 : kto ≤ ksize) (iv_ko_4 : kfrom ≤ 940) (hTM : TM bt ktapeF) (hMT : MT bt ksize klimit hp kkind ksign kfrom kto knumber kword) (c1 : kkind = nI 2) (p5 : WOf (nI 0) r4) (e7 : y6 = lg_cmp kword r4) (c8 : y6 = 0) : ((nI 1) = nI 1 ∧ (tW bt ksize klimit hp = 0)) ∨ ((nI 1) = nI 0 ∧ (¬ tW bt ksize klimit hp = 0)) := by
  first
    | (refine Or.inl ⟨rfl, isW_t hMT (by decide) (by assumption) (by assumption) ?_⟩; subst_vars; exact (lg0 _ _).mp (by first | assumption | exact Eq.symm (by assumption)))
    | (refine Or.inr ⟨rfl, isW_f hMT (by decide) (by assumption) (fun z => ?_)⟩; subst_vars; exact absurd ((lg0 _ _).mpr rfl) (by assumption))
    | exact Or.inr ⟨rfl, isW_n hMT (by decide) (by assumption)⟩
set_option maxHeartbeats 4000000 in
set_option maxRecDepth 100000 in
theorem c_g_isWord0 (l : Launch) (dC : Nat → ClassId) (dI : Nat → Nat → Nat) (ky : Nat → ClassId) (sz : Nat) (bt : Nat → Nat) (o : Nat) (kthrown : Int32) (ktape : Nat) (ktaped : Nat) (ksize : Nat) (klimit : Nat) (kto : Nat) (kfrom : Nat) (kkind : Int32) (knumber : Int32) (ksign : Int32) (kfault : Int32) (kplace : Int32) (kword : Int64) (ktold : Int32) (know : Nat) (kread : Nat) (kkept : Nat) (ksnaps : Nat) (kaside : Nat) (kname : Nat) (kreadName : Nat) (kkeptName : Nat) (kisKept : Nat) (konces : Nat) (ksnapMany : Nat) (khasCells : Int32) (kpoured : Nat) (kfar : Nat) (ksides : Nat) (ksideMany : Nat) (kwayDays : Int32) (khasWay : Int32) (klines : Nat) (kmet : Nat) (kmetMany : Nat) (ksunk : Nat) (ktrying : Nat) (ksunkMany : Nat) (ksending : Int32) (kfleets : Int32) (ktext : Nat) (ktexts : Nat) (kseed : Int32) (kline : Nat) (kwritten : Nat) (klineMany : Nat) (khasWritten : Int32) (knode : Nat) (knodes : Nat) (konesMany : Nat) (kwithin : Nat) (ktop : Nat) (ktapeF : Nat → Int32) (hp : Nat) (iv_ko_0 : ktaped ≤ 940) (iv_ko_1 : ksize ≤ 940) (iv_ko_2 : klimit ≤ 900) (iv_ko_3 : kto ≤ ksize) (iv_ko_4 : kfrom ≤ 940) (iv_ko_5 : ksnapMany ≤ 8) (iv_ko_6 : ksideMany ≤ 36) (iv_ko_7 : kmetMany ≤ 3) (iv_ko_8 : ksunkMany ≤ 36) (iv_ko_9 : ktexts ≤ 64) (iv_ko_10 : klineMany ≤ 40) (iv_ko_11 : knodes ≤ 60) (iv_ko_12 : konesMany ≤ 20) (iv_ko_13 : kwithin ≤ 8) (iv_ko_14 : ktop ≤ 59) (hTM : TM bt ktapeF) (hMT : MT bt ksize klimit hp kkind ksign kfrom kto knumber kword) : Met l yX12_isWord wsX12_isWord ({ frames := 2, cells := 0, slots := 0, locals := 47 }) (PcU dC dI ky [.ref o, .int (nI 0)] [(o, .inr (12, [.int kthrown, .ref ktape, .int (nI ktaped), .int (nI ksize), .int (nI klimit), .int (nI kto), .int (nI kfrom), .int kkind, .int knumber, .int ksign, .int kfault, .int kplace, .long kword, .int ktold, .ref know, .ref kread, .ref kkept, .ref ksnaps, .ref kaside, .ref kname, .ref kreadName, .ref kkeptName, .ref kisKept, .ref konces, .int (nI ksnapMany), .int khasCells, .ref kpoured, .ref kfar, .ref ksides, .int (nI ksideMany), .int kwayDays, .int khasWay, .ref klines, .ref kmet, .int (nI kmetMany), .ref ksunk, .ref ktrying, .int (nI ksunkMany), .int ksending, .int kfleets, .ref ktext, .int (nI ktexts), .int kseed, .ref kline, .ref kwritten, .int (nI klineMany), .int khasWritten, .ref knode, .int (nI knodes), .int (nI konesMany), .int (nI kwithin), .int (nI ktop)])), (ktape, .inl (ky 0, 940, .inl ktapeF))] sz) (va_Qi (fun (r : Int32) (_ : Unit) => (r = nI 1 ∧ (tW bt ksize klimit hp = 0)) ∨ (r = nI 0 ∧ (¬ tW bt ksize klimit hp = 0))) (BU dC dI ky (fun (_ : Unit) => [(o, .inr (12, [.int kthrown, .ref ktape, .int (nI ktaped), .int (nI ksize), .int (nI klimit), .int (nI kto), .int (nI kfrom), .int kkind, .int knumber, .int ksign, .int kfault, .int kplace, .long kword, .int ktold, .ref know, .ref kread, .ref kkept, .ref ksnaps, .ref kaside, .ref kname, .ref kreadName, .ref kkeptName, .ref kisKept, .ref konces, .int (nI ksnapMany), .int khasCells, .ref kpoured, .ref kfar, .ref ksides, .int (nI ksideMany), .int kwayDays, .int khasWay, .ref klines, .ref kmet, .int (nI kmetMany), .ref ksunk, .ref ktrying, .int (nI ksunkMany), .int ksending, .int kfleets, .ref ktext, .int (nI ktexts), .int kseed, .ref kline, .ref kwritten, .int (nI klineMany), .int khasWritten, .ref knode, .int (nI knodes), .int (nI konesMany), .int (nI kwithin), .int (nI ktop)])), (ktape, .inl (ky 0, 940, .inl ktapeF))]) (va_A [(o, .inr (12, [.int kthrown, .ref ktape, .int (nI ktaped), .int (nI ksize), .int (nI klimit), .int (nI kto), .int (nI kfrom), .int kkind, .int knumber, .int ksign, .int kfault, .int kplace, .long kword, .int ktold, .ref know, .ref kread, .ref kkept, .ref ksnaps, .ref kaside, .ref kname, .ref kreadName, .ref kkeptName, .ref kisKept, .ref konces, .int (nI ksnapMany), .int khasCells, .ref kpoured, .ref kfar, .ref ksides, .int (nI ksideMany), .int kwayDays, .int khasWay, .ref klines, .ref kmet, .int (nI kmetMany), .ref ksunk, .ref ktrying, .int (nI ksunkMany), .int ksending, .int kfleets, .ref ktext, .int (nI ktexts), .int kseed, .ref kline, .ref kwritten, .int (nI klineMany), .int khasWritten, .ref knode, .int (nI knodes), .int (nI konesMany), .int (nI kwithin), .int (nI ktop)])), (ktape, .inl (ky 0, 940, .inl ktapeF))] sz)) (va_A [(o, .inr (12, [.int kthrown, .ref ktape, .int (nI ktaped), .int (nI ksize), .int (nI klimit), .int (nI kto), .int (nI kfrom), .int kkind, .int knumber, .int ksign, .int kfault, .int kplace, .long kword, .int ktold, .ref know, .ref kread, .ref kkept, .ref ksnaps, .ref kaside, .ref kname, .ref kreadName, .ref kkeptName, .ref kisKept, .ref konces, .int (nI ksnapMany), .int khasCells, .ref kpoured, .ref kfar, .ref ksides, .int (nI ksideMany), .int kwayDays, .int khasWay, .ref klines, .ref kmet, .int (nI kmetMany), .ref ksunk, .ref ktrying, .int (nI ksunkMany), .int ksending, .int kfleets, .ref ktext, .int (nI ktexts), .int kseed, .ref kline, .ref kwritten, .int (nI klineMany), .int khasWritten, .ref knode, .int (nI knodes), .int (nI konesMany), .int (nI kwithin), .int (nI ktop)])), (ktape, .inl (ky 0, 940, .inl ktapeF))] sz)) 0 0 (va_A [(o, .inr (12, [.int kthrown, .ref ktape, .int (nI ktaped), .int (nI ksize), .int (nI klimit), .int (nI kto), .int (nI kfrom), .int kkind, .int knumber, .int ksign, .int kfault, .int kplace, .long kword, .int ktold, .ref know, .ref kread, .ref kkept, .ref ksnaps, .ref kaside, .ref kname, .ref kreadName, .ref kkeptName, .ref kisKept, .ref konces, .int (nI ksnapMany), .int khasCells, .ref kpoured, .ref kfar, .ref ksides, .int (nI ksideMany), .int kwayDays, .int khasWay, .ref klines, .ref kmet, .int (nI kmetMany), .ref ksunk, .ref ktrying, .int (nI ksunkMany), .int ksending, .int kfleets, .ref ktext, .int (nI ktexts), .int kseed, .ref kline, .ref kwritten, .int (nI klineMany), .int khasWritten, .ref knode, .int (nI knodes), .int (nI konesMany), .int (nI kwithin), .int (nI ktop)])), (ktape, .inl (ky 0, 940, .inl ktapeF))] sz) := by
  refine Met.ofW (cc := cX12_isWord) (maxL := 2) (ret := (some .boolean)) (by decide) rfl ?_
  intro p e s m args below meth c s₁ B hml hv
  obtain ⟨rfl, hsz, hP, hK, hD0⟩ := hv
  have hx := B.exec
  have hb := B.bytes
  have hr := B.returns
  have hts := atoms_spec (ws := wsX12_isWord) B.pre
  have hown : s.vm.findClass RX12 = some m.cls := findClass_of_methodNamed B.named
  have hlocks := B.notSynchronized
  have hin12 : ∀ w ∈ u_ws RX12 TX12 52, w ∈ wsX12_isWord := by decide +kernel
  subst hsz
  have hD := hD0.self (sz := s.heap.size)
  generalize hAe : va_A [(o, .inr (12, [.int kthrown, .ref ktape, .int (nI ktaped), .int (nI ksize), .int (nI klimit), .int (nI kto), .int (nI kfrom), .int kkind, .int knumber, .int ksign, .int kfault, .int kplace, .long kword, .int ktold, .ref know, .ref kread, .ref kkept, .ref ksnaps, .ref kaside, .ref kname, .ref kreadName, .ref kkeptName, .ref kisKept, .ref konces, .int (nI ksnapMany), .int khasCells, .ref kpoured, .ref kfar, .ref ksides, .int (nI ksideMany), .int kwayDays, .int khasWay, .ref klines, .ref kmet, .int (nI kmetMany), .ref ksunk, .ref ktrying, .int (nI ksunkMany), .int ksending, .int kfleets, .ref ktext, .int (nI ktexts), .int kseed, .ref kline, .ref kwritten, .int (nI klineMany), .int khasWritten, .ref knode, .int (nI knodes), .int (nI konesMany), .int (nI kwithin), .int (nI ktop)])), (ktape, .inl (ky 0, 940, .inl ktapeF))] s.heap.size = A at hD ⊢
  have hA : ∀ q : Nat, s.heap.size ≤ q → A q := fun q h => by rw [← hAe]; exact Or.inr h
  have hS : va_S A s.heap s.heap [] := va_S.rf
  have hl := lv_entry ([.ref o, .int (nI 0)]) (n := 2) (Nat.le_of_ble_eq_true rfl)
  rw [lg_entry_eq]
  generalize (lg_sl ([.ref o, .int (nI 0)]) ++ List.replicate (2 - (lg_sl ([.ref o, .int (nI 0)])).length) Slot.unset).toArray = ls at hl ⊢
  have hl : lv_has ls 2 [(0, .ref o), (1, .int (nI 0))] := hl
  refine q_name (fun Q hQ => ?_)
  generalize ([.ref o, .int (nI 0)] : List Value).toArray = args at hts hQ ⊢
  refine lv_aload_n hx hb dX12_isWord_0 rfl (lv_at hl 0 rfl) ?_
  refine va_get (D := (dC, dI)) (ci := 12) (v := .int kkind) (C := RX12) (T := TX12) (N := 52) hx hb hts hin12 hown hK hP 0 rfl rfl 7 (by decide) (hts (.fieldLink RX12 30 "PorridgeSeaModel" "kind" "I") (List.mem_of_getElem? (i := 1) rfl)) (fun _ h9 => h9) rfl dX12_isWord_1 ?_
  refine lv_iconst (v := nI 2) hx hb dX12_isWord_4 (by decide) ?_
  refine lv_icmp_ne (tgt := 24) hx hb dX12_isWord_5 (by decide) (fun c1 => ?_) (fun c1 => ?_)
  · refine lv_iconst (v := nI 0) hx hb dX12_isWord_24 (by decide) ?_
    rw [hQ]
    exact W.zret (v := nI 0) hx hb hr (by decide) (fun t9 ht9 hW9 => ⟨⟨nI 0, (), rfl, (lf_g_isWord0_1 bt ksize klimit kto kfrom kkind knumber ksign kword ktapeF hp iv_ko_1 iv_ko_2 iv_ko_3 iv_ko_4 hTM hMT c1), by rw [ht9]; exact hP, va_K.moved hW9.alike hK, hD⟩, hS.F ht9⟩) hS.2.2 dX12_isWord_25
  · refine lv_aload_n hx hb dX12_isWord_8 rfl (lv_at hl 0 rfl) ?_
    refine va_get (D := (dC, dI)) (ci := 12) (v := .long kword) (C := RX12) (T := TX12) (N := 52) hx hb hts hin12 hown hK hP 0 rfl rfl 12 (by decide) (hts (.fieldLink RX12 43 "PorridgeSeaModel" "word" "J") (List.mem_of_getElem? (i := 2) rfl)) (fun _ h9 => h9) rfl dX12_isWord_9 ?_
    refine lv_iload_n hx hb dX12_isWord_12 rfl (lv_at hl 1 rfl) ?_
    refine r_call_l (wr := [(o, .inr (12, [.int kthrown, .ref ktape, .int (nI ktaped), .int (nI ksize), .int (nI klimit), .int (nI kto), .int (nI kfrom), .int kkind, .int knumber, .int ksign, .int kfault, .int kplace, .long kword, .int ktold, .ref know, .ref kread, .ref kkept, .ref ksnaps, .ref kaside, .ref kname, .ref kreadName, .ref kkeptName, .ref kisKept, .ref konces, .int (nI ksnapMany), .int khasCells, .ref kpoured, .ref kfar, .ref ksides, .int (nI ksideMany), .int kwayDays, .int khasWay, .ref klines, .ref kmet, .int (nI kmetMany), .ref ksunk, .ref ktrying, .int (nI ksunkMany), .int ksending, .int kfleets, .ref ktext, .int (nI ktexts), .int kseed, .ref kline, .ref kwritten, .int (nI klineMany), .int khasWritten, .ref knode, .int (nI knodes), .int (nI konesMany), .int (nI kwithin), .int (nI ktop)])), (ktape, .inl (ky 0, 940, .inl ktapeF))]) (va_runS (As := [.int (nI 0)]) (rest := [.long kword]) ⟨hx, hb, hml, hown, hts⟩ (c_g_wordOf l dC dI ky s.heap.size (nI 0)) (va_cwS 1 hts gX12_isWord_X12_wordOf rfl rfl rfl (by decide +kernel) ⟨(Nat.le_of_ble_eq_true rfl), (Nat.le_of_ble_eq_true rfl)⟩) (pre_US hK hP hD [] (by decide) rfl) rfl rfl hl.1 rfl (lv_room (Nat.le_of_ble_eq_true rfl)) dX12_isWord_13 ⟨(Nat.le_of_ble_eq_true rfl), (Nat.le_of_ble_eq_true rfl)⟩) hP hD hS hA [] [0, 1] rfl rfl (by decide) (by decide) (fun r4 u2 H locs p3 hP hD hS => ?_)
    try dsimp only at p3
    have p5 := p3
    refine W.widen (k := 0) (n := 0) (Nat.le_of_ble_eq_true rfl) (Nat.le_of_ble_eq_true rfl) ?_
    have hP : va_P (dC, dI) vwCl [(o, .inr (12, [.int kthrown, .ref ktape, .int (nI ktaped), .int (nI ksize), .int (nI klimit), .int (nI kto), .int (nI kfrom), .int kkind, .int knumber, .int ksign, .int kfault, .int kplace, .long kword, .int ktold, .ref know, .ref kread, .ref kkept, .ref ksnaps, .ref kaside, .ref kname, .ref kreadName, .ref kkeptName, .ref kisKept, .ref konces, .int (nI ksnapMany), .int khasCells, .ref kpoured, .ref kfar, .ref ksides, .int (nI ksideMany), .int kwayDays, .int khasWay, .ref klines, .ref kmet, .int (nI kmetMany), .ref ksunk, .ref ktrying, .int (nI ksunkMany), .int ksending, .int kfleets, .ref ktext, .int (nI ktexts), .int kseed, .ref kline, .ref kwritten, .int (nI klineMany), .int khasWritten, .ref knode, .int (nI knodes), .int (nI konesMany), .int (nI kwithin), .int (nI ktop)])), (ktape, .inl (ky 0, 940, .inl ktapeF))] H := hP
    have hD : va_D A [(o, .inr (12, [.int kthrown, .ref ktape, .int (nI ktaped), .int (nI ksize), .int (nI klimit), .int (nI kto), .int (nI kfrom), .int kkind, .int knumber, .int ksign, .int kfault, .int kplace, .long kword, .int ktold, .ref know, .ref kread, .ref kkept, .ref ksnaps, .ref kaside, .ref kname, .ref kreadName, .ref kkeptName, .ref kisKept, .ref konces, .int (nI ksnapMany), .int khasCells, .ref kpoured, .ref kfar, .ref ksides, .int (nI ksideMany), .int kwayDays, .int khasWay, .ref klines, .ref kmet, .int (nI kmetMany), .ref ksunk, .ref ktrying, .int (nI ksunkMany), .int ksending, .int kfleets, .ref ktext, .int (nI ktexts), .int kseed, .ref kline, .ref kwritten, .int (nI klineMany), .int khasWritten, .ref knode, .int (nI knodes), .int (nI konesMany), .int (nI kwithin), .int (nI ktop)])), (ktape, .inl (ky 0, 940, .inl ktapeF))] := hD
    refine W.lcmp hx hb dX12_isWord_16 ?_
    refine lv_topi (fun y6 e7 => ?_)
    refine lv_if_ne (tgt := 24) hx hb dX12_isWord_17 (by decide) (fun c8 => ?_) (fun c8 => ?_)
    · refine lv_iconst (v := nI 0) hx hb dX12_isWord_24 (by decide) ?_
      rw [hQ]
      exact W.zret (v := nI 0) hx hb hr (by decide) (fun t9 ht9 hW9 => ⟨⟨nI 0, (), rfl, (lf_g_isWord0_2 bt ksize klimit kto kfrom kkind knumber ksign kword ktapeF hp r4 y6 iv_ko_1 iv_ko_2 iv_ko_3 iv_ko_4 hTM hMT c1 p5 e7 c8), by rw [ht9]; exact hP, va_K.moved hW9.alike hK, hD⟩, hS.F ht9⟩) hS.2.2 dX12_isWord_25
    · refine lv_iconst (v := nI 1) hx hb dX12_isWord_20 (by decide) ?_
      refine lv_goto (tgt := 25) hx hb dX12_isWord_21 (by decide) ?_
      rw [hQ]
      exact W.zret (v := nI 1) hx hb hr (by decide) (fun t9 ht9 hW9 => ⟨⟨nI 1, (), rfl, (lf_g_isWord0_3 bt ksize klimit kto kfrom kkind knumber ksign kword ktapeF hp r4 y6 iv_ko_1 iv_ko_2 iv_ko_3 iv_ko_4 hTM hMT c1 p5 e7 c8), by rw [ht9]; exact hP, va_K.moved hW9.alike hK, hD⟩, hS.F ht9⟩) hS.2.2 dX12_isWord_25
set_option maxRecDepth 20000 in
theorem lf_g_isWord1_1 (bt : Nat → Nat) (ksize : Nat) (klimit : Nat) (kto : Nat) (kfrom : Nat) (kkind : Int32) (knumber : Int32) (ksign : Int32) (kword : Int64) (ktapeF : Nat → Int32) (hp : Nat) (iv_ko_1 : ksize ≤ 940) (iv_ko_2 : klimit ≤ 900) (iv_ko_3 : kto ≤ ksize) (iv_ko_4 : kfrom ≤ 940) (hTM : TM bt ktapeF) (hMT : MT bt ksize klimit hp kkind ksign kfrom kto knumber kword) (c1 : kkind ≠ nI 2) : ((nI 0) = nI 1 ∧ (tW bt ksize klimit hp = 1)) ∨ ((nI 0) = nI 0 ∧ (¬ tW bt ksize klimit hp = 1)) := by
  first
    | (refine Or.inl ⟨rfl, isW_t hMT (by decide) (by assumption) (by assumption) ?_⟩; subst_vars; exact (lg0 _ _).mp (by first | assumption | exact Eq.symm (by assumption)))
    | (refine Or.inr ⟨rfl, isW_f hMT (by decide) (by assumption) (fun z => ?_)⟩; subst_vars; exact absurd ((lg0 _ _).mpr rfl) (by assumption))
    | exact Or.inr ⟨rfl, isW_n hMT (by decide) (by assumption)⟩
set_option maxRecDepth 20000 in
theorem lf_g_isWord1_2 (bt : Nat → Nat) (ksize : Nat) (klimit : Nat) (kto : Nat) (kfrom : Nat) (kkind : Int32) (knumber : Int32) (ksign : Int32) (kword : Int64) (ktapeF : Nat → Int32) (hp : Nat) (r4 : Int64) (y6 : Int32) (iv_ko_1 : ksize ≤ 940) (iv_ko_2 : klimit ≤ 900) (iv_ko_3 : kto ≤ ksize) (iv_ko_4 : kfrom ≤ 940) (hTM : TM bt ktapeF) (hMT : MT bt ksize klimit hp kkind ksign kfrom kto knumber kword) (c1 : kkind = nI 2) (p5 : WOf (nI 1) r4) (e7 : y6 = lg_cmp kword r4) (c8 : y6 ≠ 0) : ((nI 0) = nI 1 ∧ (tW bt ksize klimit hp = 1)) ∨ ((nI 0) = nI 0 ∧ (¬ tW bt ksize klimit hp = 1)) := by
  first
    | (refine Or.inl ⟨rfl, isW_t hMT (by decide) (by assumption) (by assumption) ?_⟩; subst_vars; exact (lg0 _ _).mp (by first | assumption | exact Eq.symm (by assumption)))
    | (refine Or.inr ⟨rfl, isW_f hMT (by decide) (by assumption) (fun z => ?_)⟩; subst_vars; exact absurd ((lg0 _ _).mpr rfl) (by assumption))
    | exact Or.inr ⟨rfl, isW_n hMT (by decide) (by assumption)⟩
set_option maxRecDepth 20000 in
theorem lf_g_isWord1_3 (bt : Nat → Nat) (ksize : Nat) (klimit : Nat) (kto : Nat) (kfrom : Nat) (kkind : Int32) (knumber : Int32) (ksign : Int32) (kword : Int64) (ktapeF : Nat → Int32) (hp : Nat) (r4 : Int64) (y6 : Int32) (iv_ko_1 : ksize ≤ 940) (iv_ko_2 : klimit ≤ 900) (iv_ko_3 : kto ≤ ksize) (iv_ko_4 : kfrom ≤ 940) (hTM : TM bt ktapeF) (hMT : MT bt ksize klimit hp kkind ksign kfrom kto knumber kword) (c1 : kkind = nI 2) (p5 : WOf (nI 1) r4) (e7 : y6 = lg_cmp kword r4) (c8 : y6 = 0) : ((nI 1) = nI 1 ∧ (tW bt ksize klimit hp = 1)) ∨ ((nI 1) = nI 0 ∧ (¬ tW bt ksize klimit hp = 1)) := by
  first
    | (refine Or.inl ⟨rfl, isW_t hMT (by decide) (by assumption) (by assumption) ?_⟩; subst_vars; exact (lg0 _ _).mp (by first | assumption | exact Eq.symm (by assumption)))
    | (refine Or.inr ⟨rfl, isW_f hMT (by decide) (by assumption) (fun z => ?_)⟩; subst_vars; exact absurd ((lg0 _ _).mpr rfl) (by assumption))
    | exact Or.inr ⟨rfl, isW_n hMT (by decide) (by assumption)⟩
set_option maxHeartbeats 4000000 in
set_option maxRecDepth 100000 in
theorem c_g_isWord1 (l : Launch) (dC : Nat → ClassId) (dI : Nat → Nat → Nat) (ky : Nat → ClassId) (sz : Nat) (bt : Nat → Nat) (o : Nat) (kthrown : Int32) (ktape : Nat) (ktaped : Nat) (ksize : Nat) (klimit : Nat) (kto : Nat) (kfrom : Nat) (kkind : Int32) (knumber : Int32) (ksign : Int32) (kfault : Int32) (kplace : Int32) (kword : Int64) (ktold : Int32) (know : Nat) (kread : Nat) (kkept : Nat) (ksnaps : Nat) (kaside : Nat) (kname : Nat) (kreadName : Nat) (kkeptName : Nat) (kisKept : Nat) (konces : Nat) (ksnapMany : Nat) (khasCells : Int32) (kpoured : Nat) (kfar : Nat) (ksides : Nat) (ksideMany : Nat) (kwayDays : Int32) (khasWay : Int32) (klines : Nat) (kmet : Nat) (kmetMany : Nat) (ksunk : Nat) (ktrying : Nat) (ksunkMany : Nat) (ksending : Int32) (kfleets : Int32) (ktext : Nat) (ktexts : Nat) (kseed : Int32) (kline : Nat) (kwritten : Nat) (klineMany : Nat) (khasWritten : Int32) (knode : Nat) (knodes : Nat) (konesMany : Nat) (kwithin : Nat) (ktop : Nat) (ktapeF : Nat → Int32) (hp : Nat) (iv_ko_0 : ktaped ≤ 940) (iv_ko_1 : ksize ≤ 940) (iv_ko_2 : klimit ≤ 900) (iv_ko_3 : kto ≤ ksize) (iv_ko_4 : kfrom ≤ 940) (iv_ko_5 : ksnapMany ≤ 8) (iv_ko_6 : ksideMany ≤ 36) (iv_ko_7 : kmetMany ≤ 3) (iv_ko_8 : ksunkMany ≤ 36) (iv_ko_9 : ktexts ≤ 64) (iv_ko_10 : klineMany ≤ 40) (iv_ko_11 : knodes ≤ 60) (iv_ko_12 : konesMany ≤ 20) (iv_ko_13 : kwithin ≤ 8) (iv_ko_14 : ktop ≤ 59) (hTM : TM bt ktapeF) (hMT : MT bt ksize klimit hp kkind ksign kfrom kto knumber kword) : Met l yX12_isWord wsX12_isWord ({ frames := 2, cells := 0, slots := 0, locals := 47 }) (PcU dC dI ky [.ref o, .int (nI 1)] [(o, .inr (12, [.int kthrown, .ref ktape, .int (nI ktaped), .int (nI ksize), .int (nI klimit), .int (nI kto), .int (nI kfrom), .int kkind, .int knumber, .int ksign, .int kfault, .int kplace, .long kword, .int ktold, .ref know, .ref kread, .ref kkept, .ref ksnaps, .ref kaside, .ref kname, .ref kreadName, .ref kkeptName, .ref kisKept, .ref konces, .int (nI ksnapMany), .int khasCells, .ref kpoured, .ref kfar, .ref ksides, .int (nI ksideMany), .int kwayDays, .int khasWay, .ref klines, .ref kmet, .int (nI kmetMany), .ref ksunk, .ref ktrying, .int (nI ksunkMany), .int ksending, .int kfleets, .ref ktext, .int (nI ktexts), .int kseed, .ref kline, .ref kwritten, .int (nI klineMany), .int khasWritten, .ref knode, .int (nI knodes), .int (nI konesMany), .int (nI kwithin), .int (nI ktop)])), (ktape, .inl (ky 0, 940, .inl ktapeF))] sz) (va_Qi (fun (r : Int32) (_ : Unit) => (r = nI 1 ∧ (tW bt ksize klimit hp = 1)) ∨ (r = nI 0 ∧ (¬ tW bt ksize klimit hp = 1))) (BU dC dI ky (fun (_ : Unit) => [(o, .inr (12, [.int kthrown, .ref ktape, .int (nI ktaped), .int (nI ksize), .int (nI klimit), .int (nI kto), .int (nI kfrom), .int kkind, .int knumber, .int ksign, .int kfault, .int kplace, .long kword, .int ktold, .ref know, .ref kread, .ref kkept, .ref ksnaps, .ref kaside, .ref kname, .ref kreadName, .ref kkeptName, .ref kisKept, .ref konces, .int (nI ksnapMany), .int khasCells, .ref kpoured, .ref kfar, .ref ksides, .int (nI ksideMany), .int kwayDays, .int khasWay, .ref klines, .ref kmet, .int (nI kmetMany), .ref ksunk, .ref ktrying, .int (nI ksunkMany), .int ksending, .int kfleets, .ref ktext, .int (nI ktexts), .int kseed, .ref kline, .ref kwritten, .int (nI klineMany), .int khasWritten, .ref knode, .int (nI knodes), .int (nI konesMany), .int (nI kwithin), .int (nI ktop)])), (ktape, .inl (ky 0, 940, .inl ktapeF))]) (va_A [(o, .inr (12, [.int kthrown, .ref ktape, .int (nI ktaped), .int (nI ksize), .int (nI klimit), .int (nI kto), .int (nI kfrom), .int kkind, .int knumber, .int ksign, .int kfault, .int kplace, .long kword, .int ktold, .ref know, .ref kread, .ref kkept, .ref ksnaps, .ref kaside, .ref kname, .ref kreadName, .ref kkeptName, .ref kisKept, .ref konces, .int (nI ksnapMany), .int khasCells, .ref kpoured, .ref kfar, .ref ksides, .int (nI ksideMany), .int kwayDays, .int khasWay, .ref klines, .ref kmet, .int (nI kmetMany), .ref ksunk, .ref ktrying, .int (nI ksunkMany), .int ksending, .int kfleets, .ref ktext, .int (nI ktexts), .int kseed, .ref kline, .ref kwritten, .int (nI klineMany), .int khasWritten, .ref knode, .int (nI knodes), .int (nI konesMany), .int (nI kwithin), .int (nI ktop)])), (ktape, .inl (ky 0, 940, .inl ktapeF))] sz)) (va_A [(o, .inr (12, [.int kthrown, .ref ktape, .int (nI ktaped), .int (nI ksize), .int (nI klimit), .int (nI kto), .int (nI kfrom), .int kkind, .int knumber, .int ksign, .int kfault, .int kplace, .long kword, .int ktold, .ref know, .ref kread, .ref kkept, .ref ksnaps, .ref kaside, .ref kname, .ref kreadName, .ref kkeptName, .ref kisKept, .ref konces, .int (nI ksnapMany), .int khasCells, .ref kpoured, .ref kfar, .ref ksides, .int (nI ksideMany), .int kwayDays, .int khasWay, .ref klines, .ref kmet, .int (nI kmetMany), .ref ksunk, .ref ktrying, .int (nI ksunkMany), .int ksending, .int kfleets, .ref ktext, .int (nI ktexts), .int kseed, .ref kline, .ref kwritten, .int (nI klineMany), .int khasWritten, .ref knode, .int (nI knodes), .int (nI konesMany), .int (nI kwithin), .int (nI ktop)])), (ktape, .inl (ky 0, 940, .inl ktapeF))] sz)) 0 0 (va_A [(o, .inr (12, [.int kthrown, .ref ktape, .int (nI ktaped), .int (nI ksize), .int (nI klimit), .int (nI kto), .int (nI kfrom), .int kkind, .int knumber, .int ksign, .int kfault, .int kplace, .long kword, .int ktold, .ref know, .ref kread, .ref kkept, .ref ksnaps, .ref kaside, .ref kname, .ref kreadName, .ref kkeptName, .ref kisKept, .ref konces, .int (nI ksnapMany), .int khasCells, .ref kpoured, .ref kfar, .ref ksides, .int (nI ksideMany), .int kwayDays, .int khasWay, .ref klines, .ref kmet, .int (nI kmetMany), .ref ksunk, .ref ktrying, .int (nI ksunkMany), .int ksending, .int kfleets, .ref ktext, .int (nI ktexts), .int kseed, .ref kline, .ref kwritten, .int (nI klineMany), .int khasWritten, .ref knode, .int (nI knodes), .int (nI konesMany), .int (nI kwithin), .int (nI ktop)])), (ktape, .inl (ky 0, 940, .inl ktapeF))] sz) := by
  refine Met.ofW (cc := cX12_isWord) (maxL := 2) (ret := (some .boolean)) (by decide) rfl ?_
  intro p e s m args below meth c s₁ B hml hv
  obtain ⟨rfl, hsz, hP, hK, hD0⟩ := hv
  have hx := B.exec
  have hb := B.bytes
  have hr := B.returns
  have hts := atoms_spec (ws := wsX12_isWord) B.pre
  have hown : s.vm.findClass RX12 = some m.cls := findClass_of_methodNamed B.named
  have hlocks := B.notSynchronized
  have hin12 : ∀ w ∈ u_ws RX12 TX12 52, w ∈ wsX12_isWord := by decide +kernel
  subst hsz
  have hD := hD0.self (sz := s.heap.size)
  generalize hAe : va_A [(o, .inr (12, [.int kthrown, .ref ktape, .int (nI ktaped), .int (nI ksize), .int (nI klimit), .int (nI kto), .int (nI kfrom), .int kkind, .int knumber, .int ksign, .int kfault, .int kplace, .long kword, .int ktold, .ref know, .ref kread, .ref kkept, .ref ksnaps, .ref kaside, .ref kname, .ref kreadName, .ref kkeptName, .ref kisKept, .ref konces, .int (nI ksnapMany), .int khasCells, .ref kpoured, .ref kfar, .ref ksides, .int (nI ksideMany), .int kwayDays, .int khasWay, .ref klines, .ref kmet, .int (nI kmetMany), .ref ksunk, .ref ktrying, .int (nI ksunkMany), .int ksending, .int kfleets, .ref ktext, .int (nI ktexts), .int kseed, .ref kline, .ref kwritten, .int (nI klineMany), .int khasWritten, .ref knode, .int (nI knodes), .int (nI konesMany), .int (nI kwithin), .int (nI ktop)])), (ktape, .inl (ky 0, 940, .inl ktapeF))] s.heap.size = A at hD ⊢
  have hA : ∀ q : Nat, s.heap.size ≤ q → A q := fun q h => by rw [← hAe]; exact Or.inr h
  have hS : va_S A s.heap s.heap [] := va_S.rf
  have hl := lv_entry ([.ref o, .int (nI 1)]) (n := 2) (Nat.le_of_ble_eq_true rfl)
  rw [lg_entry_eq]
  generalize (lg_sl ([.ref o, .int (nI 1)]) ++ List.replicate (2 - (lg_sl ([.ref o, .int (nI 1)])).length) Slot.unset).toArray = ls at hl ⊢
  have hl : lv_has ls 2 [(0, .ref o), (1, .int (nI 1))] := hl
  refine q_name (fun Q hQ => ?_)
  generalize ([.ref o, .int (nI 1)] : List Value).toArray = args at hts hQ ⊢
  refine lv_aload_n hx hb dX12_isWord_0 rfl (lv_at hl 0 rfl) ?_
  refine va_get (D := (dC, dI)) (ci := 12) (v := .int kkind) (C := RX12) (T := TX12) (N := 52) hx hb hts hin12 hown hK hP 0 rfl rfl 7 (by decide) (hts (.fieldLink RX12 30 "PorridgeSeaModel" "kind" "I") (List.mem_of_getElem? (i := 1) rfl)) (fun _ h9 => h9) rfl dX12_isWord_1 ?_
  refine lv_iconst (v := nI 2) hx hb dX12_isWord_4 (by decide) ?_
  refine lv_icmp_ne (tgt := 24) hx hb dX12_isWord_5 (by decide) (fun c1 => ?_) (fun c1 => ?_)
  · refine lv_iconst (v := nI 0) hx hb dX12_isWord_24 (by decide) ?_
    rw [hQ]
    exact W.zret (v := nI 0) hx hb hr (by decide) (fun t9 ht9 hW9 => ⟨⟨nI 0, (), rfl, (lf_g_isWord1_1 bt ksize klimit kto kfrom kkind knumber ksign kword ktapeF hp iv_ko_1 iv_ko_2 iv_ko_3 iv_ko_4 hTM hMT c1), by rw [ht9]; exact hP, va_K.moved hW9.alike hK, hD⟩, hS.F ht9⟩) hS.2.2 dX12_isWord_25
  · refine lv_aload_n hx hb dX12_isWord_8 rfl (lv_at hl 0 rfl) ?_
    refine va_get (D := (dC, dI)) (ci := 12) (v := .long kword) (C := RX12) (T := TX12) (N := 52) hx hb hts hin12 hown hK hP 0 rfl rfl 12 (by decide) (hts (.fieldLink RX12 43 "PorridgeSeaModel" "word" "J") (List.mem_of_getElem? (i := 2) rfl)) (fun _ h9 => h9) rfl dX12_isWord_9 ?_
    refine lv_iload_n hx hb dX12_isWord_12 rfl (lv_at hl 1 rfl) ?_
    refine r_call_l (wr := [(o, .inr (12, [.int kthrown, .ref ktape, .int (nI ktaped), .int (nI ksize), .int (nI klimit), .int (nI kto), .int (nI kfrom), .int kkind, .int knumber, .int ksign, .int kfault, .int kplace, .long kword, .int ktold, .ref know, .ref kread, .ref kkept, .ref ksnaps, .ref kaside, .ref kname, .ref kreadName, .ref kkeptName, .ref kisKept, .ref konces, .int (nI ksnapMany), .int khasCells, .ref kpoured, .ref kfar, .ref ksides, .int (nI ksideMany), .int kwayDays, .int khasWay, .ref klines, .ref kmet, .int (nI kmetMany), .ref ksunk, .ref ktrying, .int (nI ksunkMany), .int ksending, .int kfleets, .ref ktext, .int (nI ktexts), .int kseed, .ref kline, .ref kwritten, .int (nI klineMany), .int khasWritten, .ref knode, .int (nI knodes), .int (nI konesMany), .int (nI kwithin), .int (nI ktop)])), (ktape, .inl (ky 0, 940, .inl ktapeF))]) (va_runS (As := [.int (nI 1)]) (rest := [.long kword]) ⟨hx, hb, hml, hown, hts⟩ (c_g_wordOf l dC dI ky s.heap.size (nI 1)) (va_cwS 1 hts gX12_isWord_X12_wordOf rfl rfl rfl (by decide +kernel) ⟨(Nat.le_of_ble_eq_true rfl), (Nat.le_of_ble_eq_true rfl)⟩) (pre_US hK hP hD [] (by decide) rfl) rfl rfl hl.1 rfl (lv_room (Nat.le_of_ble_eq_true rfl)) dX12_isWord_13 ⟨(Nat.le_of_ble_eq_true rfl), (Nat.le_of_ble_eq_true rfl)⟩) hP hD hS hA [] [0, 1] rfl rfl (by decide) (by decide) (fun r4 u2 H locs p3 hP hD hS => ?_)
    try dsimp only at p3
    have p5 := p3
    refine W.widen (k := 0) (n := 0) (Nat.le_of_ble_eq_true rfl) (Nat.le_of_ble_eq_true rfl) ?_
    have hP : va_P (dC, dI) vwCl [(o, .inr (12, [.int kthrown, .ref ktape, .int (nI ktaped), .int (nI ksize), .int (nI klimit), .int (nI kto), .int (nI kfrom), .int kkind, .int knumber, .int ksign, .int kfault, .int kplace, .long kword, .int ktold, .ref know, .ref kread, .ref kkept, .ref ksnaps, .ref kaside, .ref kname, .ref kreadName, .ref kkeptName, .ref kisKept, .ref konces, .int (nI ksnapMany), .int khasCells, .ref kpoured, .ref kfar, .ref ksides, .int (nI ksideMany), .int kwayDays, .int khasWay, .ref klines, .ref kmet, .int (nI kmetMany), .ref ksunk, .ref ktrying, .int (nI ksunkMany), .int ksending, .int kfleets, .ref ktext, .int (nI ktexts), .int kseed, .ref kline, .ref kwritten, .int (nI klineMany), .int khasWritten, .ref knode, .int (nI knodes), .int (nI konesMany), .int (nI kwithin), .int (nI ktop)])), (ktape, .inl (ky 0, 940, .inl ktapeF))] H := hP
    have hD : va_D A [(o, .inr (12, [.int kthrown, .ref ktape, .int (nI ktaped), .int (nI ksize), .int (nI klimit), .int (nI kto), .int (nI kfrom), .int kkind, .int knumber, .int ksign, .int kfault, .int kplace, .long kword, .int ktold, .ref know, .ref kread, .ref kkept, .ref ksnaps, .ref kaside, .ref kname, .ref kreadName, .ref kkeptName, .ref kisKept, .ref konces, .int (nI ksnapMany), .int khasCells, .ref kpoured, .ref kfar, .ref ksides, .int (nI ksideMany), .int kwayDays, .int khasWay, .ref klines, .ref kmet, .int (nI kmetMany), .ref ksunk, .ref ktrying, .int (nI ksunkMany), .int ksending, .int kfleets, .ref ktext, .int (nI ktexts), .int kseed, .ref kline, .ref kwritten, .int (nI klineMany), .int khasWritten, .ref knode, .int (nI knodes), .int (nI konesMany), .int (nI kwithin), .int (nI ktop)])), (ktape, .inl (ky 0, 940, .inl ktapeF))] := hD
    refine W.lcmp hx hb dX12_isWord_16 ?_
    refine lv_topi (fun y6 e7 => ?_)
    refine lv_if_ne (tgt := 24) hx hb dX12_isWord_17 (by decide) (fun c8 => ?_) (fun c8 => ?_)
    · refine lv_iconst (v := nI 0) hx hb dX12_isWord_24 (by decide) ?_
      rw [hQ]
      exact W.zret (v := nI 0) hx hb hr (by decide) (fun t9 ht9 hW9 => ⟨⟨nI 0, (), rfl, (lf_g_isWord1_2 bt ksize klimit kto kfrom kkind knumber ksign kword ktapeF hp r4 y6 iv_ko_1 iv_ko_2 iv_ko_3 iv_ko_4 hTM hMT c1 p5 e7 c8), by rw [ht9]; exact hP, va_K.moved hW9.alike hK, hD⟩, hS.F ht9⟩) hS.2.2 dX12_isWord_25
    · refine lv_iconst (v := nI 1) hx hb dX12_isWord_20 (by decide) ?_
      refine lv_goto (tgt := 25) hx hb dX12_isWord_21 (by decide) ?_
      rw [hQ]
      exact W.zret (v := nI 1) hx hb hr (by decide) (fun t9 ht9 hW9 => ⟨⟨nI 1, (), rfl, (lf_g_isWord1_3 bt ksize klimit kto kfrom kkind knumber ksign kword ktapeF hp r4 y6 iv_ko_1 iv_ko_2 iv_ko_3 iv_ko_4 hTM hMT c1 p5 e7 c8), by rw [ht9]; exact hP, va_K.moved hW9.alike hK, hD⟩, hS.F ht9⟩) hS.2.2 dX12_isWord_25
set_option maxRecDepth 20000 in
theorem lf_g_isWord2_1 (bt : Nat → Nat) (ksize : Nat) (klimit : Nat) (kto : Nat) (kfrom : Nat) (kkind : Int32) (knumber : Int32) (ksign : Int32) (kword : Int64) (ktapeF : Nat → Int32) (hp : Nat) (iv_ko_1 : ksize ≤ 940) (iv_ko_2 : klimit ≤ 900) (iv_ko_3 : kto ≤ ksize) (iv_ko_4 : kfrom ≤ 940) (hTM : TM bt ktapeF) (hMT : MT bt ksize klimit hp kkind ksign kfrom kto knumber kword) (c1 : kkind ≠ nI 2) : ((nI 0) = nI 1 ∧ (tW bt ksize klimit hp = 2)) ∨ ((nI 0) = nI 0 ∧ (¬ tW bt ksize klimit hp = 2)) := by
  first
    | (refine Or.inl ⟨rfl, isW_t hMT (by decide) (by assumption) (by assumption) ?_⟩; subst_vars; exact (lg0 _ _).mp (by first | assumption | exact Eq.symm (by assumption)))
    | (refine Or.inr ⟨rfl, isW_f hMT (by decide) (by assumption) (fun z => ?_)⟩; subst_vars; exact absurd ((lg0 _ _).mpr rfl) (by assumption))
    | exact Or.inr ⟨rfl, isW_n hMT (by decide) (by assumption)⟩
set_option maxRecDepth 20000 in
theorem lf_g_isWord2_2 (bt : Nat → Nat) (ksize : Nat) (klimit : Nat) (kto : Nat) (kfrom : Nat) (kkind : Int32) (knumber : Int32) (ksign : Int32) (kword : Int64) (ktapeF : Nat → Int32) (hp : Nat) (r4 : Int64) (y6 : Int32) (iv_ko_1 : ksize ≤ 940) (iv_ko_2 : klimit ≤ 900) (iv_ko_3 : kto ≤ ksize) (iv_ko_4 : kfrom ≤ 940) (hTM : TM bt ktapeF) (hMT : MT bt ksize klimit hp kkind ksign kfrom kto knumber kword) (c1 : kkind = nI 2) (p5 : WOf (nI 2) r4) (e7 : y6 = lg_cmp kword r4) (c8 : y6 ≠ 0) : ((nI 0) = nI 1 ∧ (tW bt ksize klimit hp = 2)) ∨ ((nI 0) = nI 0 ∧ (¬ tW bt ksize klimit hp = 2)) := by
  first
    | (refine Or.inl ⟨rfl, isW_t hMT (by decide) (by assumption) (by assumption) ?_⟩; subst_vars; exact (lg0 _ _).mp (by first | assumption | exact Eq.symm (by assumption)))
    | (refine Or.inr ⟨rfl, isW_f hMT (by decide) (by assumption) (fun z => ?_)⟩; subst_vars; exact absurd ((lg0 _ _).mpr rfl) (by assumption))
    | exact Or.inr ⟨rfl, isW_n hMT (by decide) (by assumption)⟩
set_option maxRecDepth 20000 in
theorem lf_g_isWord2_3 (bt : Nat → Nat) (ksize : Nat) (klimit : Nat) (kto : Nat) (kfrom : Nat) (kkind : Int32) (knumber : Int32) (ksign : Int32) (kword : Int64) (ktapeF : Nat → Int32) (hp : Nat) (r4 : Int64) (y6 : Int32) (iv_ko_1 : ksize ≤ 940) (iv_ko_2 : klimit ≤ 900) (iv_ko_3 : kto ≤ ksize) (iv_ko_4 : kfrom ≤ 940) (hTM : TM bt ktapeF) (hMT : MT bt ksize klimit hp kkind ksign kfrom kto knumber kword) (c1 : kkind = nI 2) (p5 : WOf (nI 2) r4) (e7 : y6 = lg_cmp kword r4) (c8 : y6 = 0) : ((nI 1) = nI 1 ∧ (tW bt ksize klimit hp = 2)) ∨ ((nI 1) = nI 0 ∧ (¬ tW bt ksize klimit hp = 2)) := by
  first
    | (refine Or.inl ⟨rfl, isW_t hMT (by decide) (by assumption) (by assumption) ?_⟩; subst_vars; exact (lg0 _ _).mp (by first | assumption | exact Eq.symm (by assumption)))
    | (refine Or.inr ⟨rfl, isW_f hMT (by decide) (by assumption) (fun z => ?_)⟩; subst_vars; exact absurd ((lg0 _ _).mpr rfl) (by assumption))
    | exact Or.inr ⟨rfl, isW_n hMT (by decide) (by assumption)⟩
set_option maxHeartbeats 4000000 in
set_option maxRecDepth 100000 in
theorem c_g_isWord2 (l : Launch) (dC : Nat → ClassId) (dI : Nat → Nat → Nat) (ky : Nat → ClassId) (sz : Nat) (bt : Nat → Nat) (o : Nat) (kthrown : Int32) (ktape : Nat) (ktaped : Nat) (ksize : Nat) (klimit : Nat) (kto : Nat) (kfrom : Nat) (kkind : Int32) (knumber : Int32) (ksign : Int32) (kfault : Int32) (kplace : Int32) (kword : Int64) (ktold : Int32) (know : Nat) (kread : Nat) (kkept : Nat) (ksnaps : Nat) (kaside : Nat) (kname : Nat) (kreadName : Nat) (kkeptName : Nat) (kisKept : Nat) (konces : Nat) (ksnapMany : Nat) (khasCells : Int32) (kpoured : Nat) (kfar : Nat) (ksides : Nat) (ksideMany : Nat) (kwayDays : Int32) (khasWay : Int32) (klines : Nat) (kmet : Nat) (kmetMany : Nat) (ksunk : Nat) (ktrying : Nat) (ksunkMany : Nat) (ksending : Int32) (kfleets : Int32) (ktext : Nat) (ktexts : Nat) (kseed : Int32) (kline : Nat) (kwritten : Nat) (klineMany : Nat) (khasWritten : Int32) (knode : Nat) (knodes : Nat) (konesMany : Nat) (kwithin : Nat) (ktop : Nat) (ktapeF : Nat → Int32) (hp : Nat) (iv_ko_0 : ktaped ≤ 940) (iv_ko_1 : ksize ≤ 940) (iv_ko_2 : klimit ≤ 900) (iv_ko_3 : kto ≤ ksize) (iv_ko_4 : kfrom ≤ 940) (iv_ko_5 : ksnapMany ≤ 8) (iv_ko_6 : ksideMany ≤ 36) (iv_ko_7 : kmetMany ≤ 3) (iv_ko_8 : ksunkMany ≤ 36) (iv_ko_9 : ktexts ≤ 64) (iv_ko_10 : klineMany ≤ 40) (iv_ko_11 : knodes ≤ 60) (iv_ko_12 : konesMany ≤ 20) (iv_ko_13 : kwithin ≤ 8) (iv_ko_14 : ktop ≤ 59) (hTM : TM bt ktapeF) (hMT : MT bt ksize klimit hp kkind ksign kfrom kto knumber kword) : Met l yX12_isWord wsX12_isWord ({ frames := 2, cells := 0, slots := 0, locals := 47 }) (PcU dC dI ky [.ref o, .int (nI 2)] [(o, .inr (12, [.int kthrown, .ref ktape, .int (nI ktaped), .int (nI ksize), .int (nI klimit), .int (nI kto), .int (nI kfrom), .int kkind, .int knumber, .int ksign, .int kfault, .int kplace, .long kword, .int ktold, .ref know, .ref kread, .ref kkept, .ref ksnaps, .ref kaside, .ref kname, .ref kreadName, .ref kkeptName, .ref kisKept, .ref konces, .int (nI ksnapMany), .int khasCells, .ref kpoured, .ref kfar, .ref ksides, .int (nI ksideMany), .int kwayDays, .int khasWay, .ref klines, .ref kmet, .int (nI kmetMany), .ref ksunk, .ref ktrying, .int (nI ksunkMany), .int ksending, .int kfleets, .ref ktext, .int (nI ktexts), .int kseed, .ref kline, .ref kwritten, .int (nI klineMany), .int khasWritten, .ref knode, .int (nI knodes), .int (nI konesMany), .int (nI kwithin), .int (nI ktop)])), (ktape, .inl (ky 0, 940, .inl ktapeF))] sz) (va_Qi (fun (r : Int32) (_ : Unit) => (r = nI 1 ∧ (tW bt ksize klimit hp = 2)) ∨ (r = nI 0 ∧ (¬ tW bt ksize klimit hp = 2))) (BU dC dI ky (fun (_ : Unit) => [(o, .inr (12, [.int kthrown, .ref ktape, .int (nI ktaped), .int (nI ksize), .int (nI klimit), .int (nI kto), .int (nI kfrom), .int kkind, .int knumber, .int ksign, .int kfault, .int kplace, .long kword, .int ktold, .ref know, .ref kread, .ref kkept, .ref ksnaps, .ref kaside, .ref kname, .ref kreadName, .ref kkeptName, .ref kisKept, .ref konces, .int (nI ksnapMany), .int khasCells, .ref kpoured, .ref kfar, .ref ksides, .int (nI ksideMany), .int kwayDays, .int khasWay, .ref klines, .ref kmet, .int (nI kmetMany), .ref ksunk, .ref ktrying, .int (nI ksunkMany), .int ksending, .int kfleets, .ref ktext, .int (nI ktexts), .int kseed, .ref kline, .ref kwritten, .int (nI klineMany), .int khasWritten, .ref knode, .int (nI knodes), .int (nI konesMany), .int (nI kwithin), .int (nI ktop)])), (ktape, .inl (ky 0, 940, .inl ktapeF))]) (va_A [(o, .inr (12, [.int kthrown, .ref ktape, .int (nI ktaped), .int (nI ksize), .int (nI klimit), .int (nI kto), .int (nI kfrom), .int kkind, .int knumber, .int ksign, .int kfault, .int kplace, .long kword, .int ktold, .ref know, .ref kread, .ref kkept, .ref ksnaps, .ref kaside, .ref kname, .ref kreadName, .ref kkeptName, .ref kisKept, .ref konces, .int (nI ksnapMany), .int khasCells, .ref kpoured, .ref kfar, .ref ksides, .int (nI ksideMany), .int kwayDays, .int khasWay, .ref klines, .ref kmet, .int (nI kmetMany), .ref ksunk, .ref ktrying, .int (nI ksunkMany), .int ksending, .int kfleets, .ref ktext, .int (nI ktexts), .int kseed, .ref kline, .ref kwritten, .int (nI klineMany), .int khasWritten, .ref knode, .int (nI knodes), .int (nI konesMany), .int (nI kwithin), .int (nI ktop)])), (ktape, .inl (ky 0, 940, .inl ktapeF))] sz)) (va_A [(o, .inr (12, [.int kthrown, .ref ktape, .int (nI ktaped), .int (nI ksize), .int (nI klimit), .int (nI kto), .int (nI kfrom), .int kkind, .int knumber, .int ksign, .int kfault, .int kplace, .long kword, .int ktold, .ref know, .ref kread, .ref kkept, .ref ksnaps, .ref kaside, .ref kname, .ref kreadName, .ref kkeptName, .ref kisKept, .ref konces, .int (nI ksnapMany), .int khasCells, .ref kpoured, .ref kfar, .ref ksides, .int (nI ksideMany), .int kwayDays, .int khasWay, .ref klines, .ref kmet, .int (nI kmetMany), .ref ksunk, .ref ktrying, .int (nI ksunkMany), .int ksending, .int kfleets, .ref ktext, .int (nI ktexts), .int kseed, .ref kline, .ref kwritten, .int (nI klineMany), .int khasWritten, .ref knode, .int (nI knodes), .int (nI konesMany), .int (nI kwithin), .int (nI ktop)])), (ktape, .inl (ky 0, 940, .inl ktapeF))] sz)) 0 0 (va_A [(o, .inr (12, [.int kthrown, .ref ktape, .int (nI ktaped), .int (nI ksize), .int (nI klimit), .int (nI kto), .int (nI kfrom), .int kkind, .int knumber, .int ksign, .int kfault, .int kplace, .long kword, .int ktold, .ref know, .ref kread, .ref kkept, .ref ksnaps, .ref kaside, .ref kname, .ref kreadName, .ref kkeptName, .ref kisKept, .ref konces, .int (nI ksnapMany), .int khasCells, .ref kpoured, .ref kfar, .ref ksides, .int (nI ksideMany), .int kwayDays, .int khasWay, .ref klines, .ref kmet, .int (nI kmetMany), .ref ksunk, .ref ktrying, .int (nI ksunkMany), .int ksending, .int kfleets, .ref ktext, .int (nI ktexts), .int kseed, .ref kline, .ref kwritten, .int (nI klineMany), .int khasWritten, .ref knode, .int (nI knodes), .int (nI konesMany), .int (nI kwithin), .int (nI ktop)])), (ktape, .inl (ky 0, 940, .inl ktapeF))] sz) := by
  refine Met.ofW (cc := cX12_isWord) (maxL := 2) (ret := (some .boolean)) (by decide) rfl ?_
  intro p e s m args below meth c s₁ B hml hv
  obtain ⟨rfl, hsz, hP, hK, hD0⟩ := hv
  have hx := B.exec
  have hb := B.bytes
  have hr := B.returns
  have hts := atoms_spec (ws := wsX12_isWord) B.pre
  have hown : s.vm.findClass RX12 = some m.cls := findClass_of_methodNamed B.named
  have hlocks := B.notSynchronized
  have hin12 : ∀ w ∈ u_ws RX12 TX12 52, w ∈ wsX12_isWord := by decide +kernel
  subst hsz
  have hD := hD0.self (sz := s.heap.size)
  generalize hAe : va_A [(o, .inr (12, [.int kthrown, .ref ktape, .int (nI ktaped), .int (nI ksize), .int (nI klimit), .int (nI kto), .int (nI kfrom), .int kkind, .int knumber, .int ksign, .int kfault, .int kplace, .long kword, .int ktold, .ref know, .ref kread, .ref kkept, .ref ksnaps, .ref kaside, .ref kname, .ref kreadName, .ref kkeptName, .ref kisKept, .ref konces, .int (nI ksnapMany), .int khasCells, .ref kpoured, .ref kfar, .ref ksides, .int (nI ksideMany), .int kwayDays, .int khasWay, .ref klines, .ref kmet, .int (nI kmetMany), .ref ksunk, .ref ktrying, .int (nI ksunkMany), .int ksending, .int kfleets, .ref ktext, .int (nI ktexts), .int kseed, .ref kline, .ref kwritten, .int (nI klineMany), .int khasWritten, .ref knode, .int (nI knodes), .int (nI konesMany), .int (nI kwithin), .int (nI ktop)])), (ktape, .inl (ky 0, 940, .inl ktapeF))] s.heap.size = A at hD ⊢
  have hA : ∀ q : Nat, s.heap.size ≤ q → A q := fun q h => by rw [← hAe]; exact Or.inr h
  have hS : va_S A s.heap s.heap [] := va_S.rf
  have hl := lv_entry ([.ref o, .int (nI 2)]) (n := 2) (Nat.le_of_ble_eq_true rfl)
  rw [lg_entry_eq]
  generalize (lg_sl ([.ref o, .int (nI 2)]) ++ List.replicate (2 - (lg_sl ([.ref o, .int (nI 2)])).length) Slot.unset).toArray = ls at hl ⊢
  have hl : lv_has ls 2 [(0, .ref o), (1, .int (nI 2))] := hl
  refine q_name (fun Q hQ => ?_)
  generalize ([.ref o, .int (nI 2)] : List Value).toArray = args at hts hQ ⊢
  refine lv_aload_n hx hb dX12_isWord_0 rfl (lv_at hl 0 rfl) ?_
  refine va_get (D := (dC, dI)) (ci := 12) (v := .int kkind) (C := RX12) (T := TX12) (N := 52) hx hb hts hin12 hown hK hP 0 rfl rfl 7 (by decide) (hts (.fieldLink RX12 30 "PorridgeSeaModel" "kind" "I") (List.mem_of_getElem? (i := 1) rfl)) (fun _ h9 => h9) rfl dX12_isWord_1 ?_
  refine lv_iconst (v := nI 2) hx hb dX12_isWord_4 (by decide) ?_
  refine lv_icmp_ne (tgt := 24) hx hb dX12_isWord_5 (by decide) (fun c1 => ?_) (fun c1 => ?_)
  · refine lv_iconst (v := nI 0) hx hb dX12_isWord_24 (by decide) ?_
    rw [hQ]
    exact W.zret (v := nI 0) hx hb hr (by decide) (fun t9 ht9 hW9 => ⟨⟨nI 0, (), rfl, (lf_g_isWord2_1 bt ksize klimit kto kfrom kkind knumber ksign kword ktapeF hp iv_ko_1 iv_ko_2 iv_ko_3 iv_ko_4 hTM hMT c1), by rw [ht9]; exact hP, va_K.moved hW9.alike hK, hD⟩, hS.F ht9⟩) hS.2.2 dX12_isWord_25
  · refine lv_aload_n hx hb dX12_isWord_8 rfl (lv_at hl 0 rfl) ?_
    refine va_get (D := (dC, dI)) (ci := 12) (v := .long kword) (C := RX12) (T := TX12) (N := 52) hx hb hts hin12 hown hK hP 0 rfl rfl 12 (by decide) (hts (.fieldLink RX12 43 "PorridgeSeaModel" "word" "J") (List.mem_of_getElem? (i := 2) rfl)) (fun _ h9 => h9) rfl dX12_isWord_9 ?_
    refine lv_iload_n hx hb dX12_isWord_12 rfl (lv_at hl 1 rfl) ?_
    refine r_call_l (wr := [(o, .inr (12, [.int kthrown, .ref ktape, .int (nI ktaped), .int (nI ksize), .int (nI klimit), .int (nI kto), .int (nI kfrom), .int kkind, .int knumber, .int ksign, .int kfault, .int kplace, .long kword, .int ktold, .ref know, .ref kread, .ref kkept, .ref ksnaps, .ref kaside, .ref kname, .ref kreadName, .ref kkeptName, .ref kisKept, .ref konces, .int (nI ksnapMany), .int khasCells, .ref kpoured, .ref kfar, .ref ksides, .int (nI ksideMany), .int kwayDays, .int khasWay, .ref klines, .ref kmet, .int (nI kmetMany), .ref ksunk, .ref ktrying, .int (nI ksunkMany), .int ksending, .int kfleets, .ref ktext, .int (nI ktexts), .int kseed, .ref kline, .ref kwritten, .int (nI klineMany), .int khasWritten, .ref knode, .int (nI knodes), .int (nI konesMany), .int (nI kwithin), .int (nI ktop)])), (ktape, .inl (ky 0, 940, .inl ktapeF))]) (va_runS (As := [.int (nI 2)]) (rest := [.long kword]) ⟨hx, hb, hml, hown, hts⟩ (c_g_wordOf l dC dI ky s.heap.size (nI 2)) (va_cwS 1 hts gX12_isWord_X12_wordOf rfl rfl rfl (by decide +kernel) ⟨(Nat.le_of_ble_eq_true rfl), (Nat.le_of_ble_eq_true rfl)⟩) (pre_US hK hP hD [] (by decide) rfl) rfl rfl hl.1 rfl (lv_room (Nat.le_of_ble_eq_true rfl)) dX12_isWord_13 ⟨(Nat.le_of_ble_eq_true rfl), (Nat.le_of_ble_eq_true rfl)⟩) hP hD hS hA [] [0, 1] rfl rfl (by decide) (by decide) (fun r4 u2 H locs p3 hP hD hS => ?_)
    try dsimp only at p3
    have p5 := p3
    refine W.widen (k := 0) (n := 0) (Nat.le_of_ble_eq_true rfl) (Nat.le_of_ble_eq_true rfl) ?_
    have hP : va_P (dC, dI) vwCl [(o, .inr (12, [.int kthrown, .ref ktape, .int (nI ktaped), .int (nI ksize), .int (nI klimit), .int (nI kto), .int (nI kfrom), .int kkind, .int knumber, .int ksign, .int kfault, .int kplace, .long kword, .int ktold, .ref know, .ref kread, .ref kkept, .ref ksnaps, .ref kaside, .ref kname, .ref kreadName, .ref kkeptName, .ref kisKept, .ref konces, .int (nI ksnapMany), .int khasCells, .ref kpoured, .ref kfar, .ref ksides, .int (nI ksideMany), .int kwayDays, .int khasWay, .ref klines, .ref kmet, .int (nI kmetMany), .ref ksunk, .ref ktrying, .int (nI ksunkMany), .int ksending, .int kfleets, .ref ktext, .int (nI ktexts), .int kseed, .ref kline, .ref kwritten, .int (nI klineMany), .int khasWritten, .ref knode, .int (nI knodes), .int (nI konesMany), .int (nI kwithin), .int (nI ktop)])), (ktape, .inl (ky 0, 940, .inl ktapeF))] H := hP
    have hD : va_D A [(o, .inr (12, [.int kthrown, .ref ktape, .int (nI ktaped), .int (nI ksize), .int (nI klimit), .int (nI kto), .int (nI kfrom), .int kkind, .int knumber, .int ksign, .int kfault, .int kplace, .long kword, .int ktold, .ref know, .ref kread, .ref kkept, .ref ksnaps, .ref kaside, .ref kname, .ref kreadName, .ref kkeptName, .ref kisKept, .ref konces, .int (nI ksnapMany), .int khasCells, .ref kpoured, .ref kfar, .ref ksides, .int (nI ksideMany), .int kwayDays, .int khasWay, .ref klines, .ref kmet, .int (nI kmetMany), .ref ksunk, .ref ktrying, .int (nI ksunkMany), .int ksending, .int kfleets, .ref ktext, .int (nI ktexts), .int kseed, .ref kline, .ref kwritten, .int (nI klineMany), .int khasWritten, .ref knode, .int (nI knodes), .int (nI konesMany), .int (nI kwithin), .int (nI ktop)])), (ktape, .inl (ky 0, 940, .inl ktapeF))] := hD
    refine W.lcmp hx hb dX12_isWord_16 ?_
    refine lv_topi (fun y6 e7 => ?_)
    refine lv_if_ne (tgt := 24) hx hb dX12_isWord_17 (by decide) (fun c8 => ?_) (fun c8 => ?_)
    · refine lv_iconst (v := nI 0) hx hb dX12_isWord_24 (by decide) ?_
      rw [hQ]
      exact W.zret (v := nI 0) hx hb hr (by decide) (fun t9 ht9 hW9 => ⟨⟨nI 0, (), rfl, (lf_g_isWord2_2 bt ksize klimit kto kfrom kkind knumber ksign kword ktapeF hp r4 y6 iv_ko_1 iv_ko_2 iv_ko_3 iv_ko_4 hTM hMT c1 p5 e7 c8), by rw [ht9]; exact hP, va_K.moved hW9.alike hK, hD⟩, hS.F ht9⟩) hS.2.2 dX12_isWord_25
    · refine lv_iconst (v := nI 1) hx hb dX12_isWord_20 (by decide) ?_
      refine lv_goto (tgt := 25) hx hb dX12_isWord_21 (by decide) ?_
      rw [hQ]
      exact W.zret (v := nI 1) hx hb hr (by decide) (fun t9 ht9 hW9 => ⟨⟨nI 1, (), rfl, (lf_g_isWord2_3 bt ksize klimit kto kfrom kkind knumber ksign kword ktapeF hp r4 y6 iv_ko_1 iv_ko_2 iv_ko_3 iv_ko_4 hTM hMT c1 p5 e7 c8), by rw [ht9]; exact hP, va_K.moved hW9.alike hK, hD⟩, hS.F ht9⟩) hS.2.2 dX12_isWord_25
set_option maxRecDepth 20000 in
theorem lf_g_isWord3_1 (bt : Nat → Nat) (ksize : Nat) (klimit : Nat) (kto : Nat) (kfrom : Nat) (kkind : Int32) (knumber : Int32) (ksign : Int32) (kword : Int64) (ktapeF : Nat → Int32) (hp : Nat) (iv_ko_1 : ksize ≤ 940) (iv_ko_2 : klimit ≤ 900) (iv_ko_3 : kto ≤ ksize) (iv_ko_4 : kfrom ≤ 940) (hTM : TM bt ktapeF) (hMT : MT bt ksize klimit hp kkind ksign kfrom kto knumber kword) (c1 : kkind ≠ nI 2) : ((nI 0) = nI 1 ∧ (tW bt ksize klimit hp = 3)) ∨ ((nI 0) = nI 0 ∧ (¬ tW bt ksize klimit hp = 3)) := by
  first
    | (refine Or.inl ⟨rfl, isW_t hMT (by decide) (by assumption) (by assumption) ?_⟩; subst_vars; exact (lg0 _ _).mp (by first | assumption | exact Eq.symm (by assumption)))
    | (refine Or.inr ⟨rfl, isW_f hMT (by decide) (by assumption) (fun z => ?_)⟩; subst_vars; exact absurd ((lg0 _ _).mpr rfl) (by assumption))
    | exact Or.inr ⟨rfl, isW_n hMT (by decide) (by assumption)⟩
set_option maxRecDepth 20000 in
theorem lf_g_isWord3_2 (bt : Nat → Nat) (ksize : Nat) (klimit : Nat) (kto : Nat) (kfrom : Nat) (kkind : Int32) (knumber : Int32) (ksign : Int32) (kword : Int64) (ktapeF : Nat → Int32) (hp : Nat) (r4 : Int64) (y6 : Int32) (iv_ko_1 : ksize ≤ 940) (iv_ko_2 : klimit ≤ 900) (iv_ko_3 : kto ≤ ksize) (iv_ko_4 : kfrom ≤ 940) (hTM : TM bt ktapeF) (hMT : MT bt ksize klimit hp kkind ksign kfrom kto knumber kword) (c1 : kkind = nI 2) (p5 : WOf (nI 3) r4) (e7 : y6 = lg_cmp kword r4) (c8 : y6 ≠ 0) : ((nI 0) = nI 1 ∧ (tW bt ksize klimit hp = 3)) ∨ ((nI 0) = nI 0 ∧ (¬ tW bt ksize klimit hp = 3)) := by
  first
    | (refine Or.inl ⟨rfl, isW_t hMT (by decide) (by assumption) (by assumption) ?_⟩; subst_vars; exact (lg0 _ _).mp (by first | assumption | exact Eq.symm (by assumption)))
    | (refine Or.inr ⟨rfl, isW_f hMT (by decide) (by assumption) (fun z => ?_)⟩; subst_vars; exact absurd ((lg0 _ _).mpr rfl) (by assumption))
    | exact Or.inr ⟨rfl, isW_n hMT (by decide) (by assumption)⟩
set_option maxRecDepth 20000 in
theorem lf_g_isWord3_3 (bt : Nat → Nat) (ksize : Nat) (klimit : Nat) (kto : Nat) (kfrom : Nat) (kkind : Int32) (knumber : Int32) (ksign : Int32) (kword : Int64) (ktapeF : Nat → Int32) (hp : Nat) (r4 : Int64) (y6 : Int32) (iv_ko_1 : ksize ≤ 940) (iv_ko_2 : klimit ≤ 900) (iv_ko_3 : kto ≤ ksize) (iv_ko_4 : kfrom ≤ 940) (hTM : TM bt ktapeF) (hMT : MT bt ksize klimit hp kkind ksign kfrom kto knumber kword) (c1 : kkind = nI 2) (p5 : WOf (nI 3) r4) (e7 : y6 = lg_cmp kword r4) (c8 : y6 = 0) : ((nI 1) = nI 1 ∧ (tW bt ksize klimit hp = 3)) ∨ ((nI 1) = nI 0 ∧ (¬ tW bt ksize klimit hp = 3)) := by
  first
    | (refine Or.inl ⟨rfl, isW_t hMT (by decide) (by assumption) (by assumption) ?_⟩; subst_vars; exact (lg0 _ _).mp (by first | assumption | exact Eq.symm (by assumption)))
    | (refine Or.inr ⟨rfl, isW_f hMT (by decide) (by assumption) (fun z => ?_)⟩; subst_vars; exact absurd ((lg0 _ _).mpr rfl) (by assumption))
    | exact Or.inr ⟨rfl, isW_n hMT (by decide) (by assumption)⟩
set_option maxHeartbeats 4000000 in
set_option maxRecDepth 100000 in
theorem c_g_isWord3 (l : Launch) (dC : Nat → ClassId) (dI : Nat → Nat → Nat) (ky : Nat → ClassId) (sz : Nat) (bt : Nat → Nat) (o : Nat) (kthrown : Int32) (ktape : Nat) (ktaped : Nat) (ksize : Nat) (klimit : Nat) (kto : Nat) (kfrom : Nat) (kkind : Int32) (knumber : Int32) (ksign : Int32) (kfault : Int32) (kplace : Int32) (kword : Int64) (ktold : Int32) (know : Nat) (kread : Nat) (kkept : Nat) (ksnaps : Nat) (kaside : Nat) (kname : Nat) (kreadName : Nat) (kkeptName : Nat) (kisKept : Nat) (konces : Nat) (ksnapMany : Nat) (khasCells : Int32) (kpoured : Nat) (kfar : Nat) (ksides : Nat) (ksideMany : Nat) (kwayDays : Int32) (khasWay : Int32) (klines : Nat) (kmet : Nat) (kmetMany : Nat) (ksunk : Nat) (ktrying : Nat) (ksunkMany : Nat) (ksending : Int32) (kfleets : Int32) (ktext : Nat) (ktexts : Nat) (kseed : Int32) (kline : Nat) (kwritten : Nat) (klineMany : Nat) (khasWritten : Int32) (knode : Nat) (knodes : Nat) (konesMany : Nat) (kwithin : Nat) (ktop : Nat) (ktapeF : Nat → Int32) (hp : Nat) (iv_ko_0 : ktaped ≤ 940) (iv_ko_1 : ksize ≤ 940) (iv_ko_2 : klimit ≤ 900) (iv_ko_3 : kto ≤ ksize) (iv_ko_4 : kfrom ≤ 940) (iv_ko_5 : ksnapMany ≤ 8) (iv_ko_6 : ksideMany ≤ 36) (iv_ko_7 : kmetMany ≤ 3) (iv_ko_8 : ksunkMany ≤ 36) (iv_ko_9 : ktexts ≤ 64) (iv_ko_10 : klineMany ≤ 40) (iv_ko_11 : knodes ≤ 60) (iv_ko_12 : konesMany ≤ 20) (iv_ko_13 : kwithin ≤ 8) (iv_ko_14 : ktop ≤ 59) (hTM : TM bt ktapeF) (hMT : MT bt ksize klimit hp kkind ksign kfrom kto knumber kword) : Met l yX12_isWord wsX12_isWord ({ frames := 2, cells := 0, slots := 0, locals := 47 }) (PcU dC dI ky [.ref o, .int (nI 3)] [(o, .inr (12, [.int kthrown, .ref ktape, .int (nI ktaped), .int (nI ksize), .int (nI klimit), .int (nI kto), .int (nI kfrom), .int kkind, .int knumber, .int ksign, .int kfault, .int kplace, .long kword, .int ktold, .ref know, .ref kread, .ref kkept, .ref ksnaps, .ref kaside, .ref kname, .ref kreadName, .ref kkeptName, .ref kisKept, .ref konces, .int (nI ksnapMany), .int khasCells, .ref kpoured, .ref kfar, .ref ksides, .int (nI ksideMany), .int kwayDays, .int khasWay, .ref klines, .ref kmet, .int (nI kmetMany), .ref ksunk, .ref ktrying, .int (nI ksunkMany), .int ksending, .int kfleets, .ref ktext, .int (nI ktexts), .int kseed, .ref kline, .ref kwritten, .int (nI klineMany), .int khasWritten, .ref knode, .int (nI knodes), .int (nI konesMany), .int (nI kwithin), .int (nI ktop)])), (ktape, .inl (ky 0, 940, .inl ktapeF))] sz) (va_Qi (fun (r : Int32) (_ : Unit) => (r = nI 1 ∧ (tW bt ksize klimit hp = 3)) ∨ (r = nI 0 ∧ (¬ tW bt ksize klimit hp = 3))) (BU dC dI ky (fun (_ : Unit) => [(o, .inr (12, [.int kthrown, .ref ktape, .int (nI ktaped), .int (nI ksize), .int (nI klimit), .int (nI kto), .int (nI kfrom), .int kkind, .int knumber, .int ksign, .int kfault, .int kplace, .long kword, .int ktold, .ref know, .ref kread, .ref kkept, .ref ksnaps, .ref kaside, .ref kname, .ref kreadName, .ref kkeptName, .ref kisKept, .ref konces, .int (nI ksnapMany), .int khasCells, .ref kpoured, .ref kfar, .ref ksides, .int (nI ksideMany), .int kwayDays, .int khasWay, .ref klines, .ref kmet, .int (nI kmetMany), .ref ksunk, .ref ktrying, .int (nI ksunkMany), .int ksending, .int kfleets, .ref ktext, .int (nI ktexts), .int kseed, .ref kline, .ref kwritten, .int (nI klineMany), .int khasWritten, .ref knode, .int (nI knodes), .int (nI konesMany), .int (nI kwithin), .int (nI ktop)])), (ktape, .inl (ky 0, 940, .inl ktapeF))]) (va_A [(o, .inr (12, [.int kthrown, .ref ktape, .int (nI ktaped), .int (nI ksize), .int (nI klimit), .int (nI kto), .int (nI kfrom), .int kkind, .int knumber, .int ksign, .int kfault, .int kplace, .long kword, .int ktold, .ref know, .ref kread, .ref kkept, .ref ksnaps, .ref kaside, .ref kname, .ref kreadName, .ref kkeptName, .ref kisKept, .ref konces, .int (nI ksnapMany), .int khasCells, .ref kpoured, .ref kfar, .ref ksides, .int (nI ksideMany), .int kwayDays, .int khasWay, .ref klines, .ref kmet, .int (nI kmetMany), .ref ksunk, .ref ktrying, .int (nI ksunkMany), .int ksending, .int kfleets, .ref ktext, .int (nI ktexts), .int kseed, .ref kline, .ref kwritten, .int (nI klineMany), .int khasWritten, .ref knode, .int (nI knodes), .int (nI konesMany), .int (nI kwithin), .int (nI ktop)])), (ktape, .inl (ky 0, 940, .inl ktapeF))] sz)) (va_A [(o, .inr (12, [.int kthrown, .ref ktape, .int (nI ktaped), .int (nI ksize), .int (nI klimit), .int (nI kto), .int (nI kfrom), .int kkind, .int knumber, .int ksign, .int kfault, .int kplace, .long kword, .int ktold, .ref know, .ref kread, .ref kkept, .ref ksnaps, .ref kaside, .ref kname, .ref kreadName, .ref kkeptName, .ref kisKept, .ref konces, .int (nI ksnapMany), .int khasCells, .ref kpoured, .ref kfar, .ref ksides, .int (nI ksideMany), .int kwayDays, .int khasWay, .ref klines, .ref kmet, .int (nI kmetMany), .ref ksunk, .ref ktrying, .int (nI ksunkMany), .int ksending, .int kfleets, .ref ktext, .int (nI ktexts), .int kseed, .ref kline, .ref kwritten, .int (nI klineMany), .int khasWritten, .ref knode, .int (nI knodes), .int (nI konesMany), .int (nI kwithin), .int (nI ktop)])), (ktape, .inl (ky 0, 940, .inl ktapeF))] sz)) 0 0 (va_A [(o, .inr (12, [.int kthrown, .ref ktape, .int (nI ktaped), .int (nI ksize), .int (nI klimit), .int (nI kto), .int (nI kfrom), .int kkind, .int knumber, .int ksign, .int kfault, .int kplace, .long kword, .int ktold, .ref know, .ref kread, .ref kkept, .ref ksnaps, .ref kaside, .ref kname, .ref kreadName, .ref kkeptName, .ref kisKept, .ref konces, .int (nI ksnapMany), .int khasCells, .ref kpoured, .ref kfar, .ref ksides, .int (nI ksideMany), .int kwayDays, .int khasWay, .ref klines, .ref kmet, .int (nI kmetMany), .ref ksunk, .ref ktrying, .int (nI ksunkMany), .int ksending, .int kfleets, .ref ktext, .int (nI ktexts), .int kseed, .ref kline, .ref kwritten, .int (nI klineMany), .int khasWritten, .ref knode, .int (nI knodes), .int (nI konesMany), .int (nI kwithin), .int (nI ktop)])), (ktape, .inl (ky 0, 940, .inl ktapeF))] sz) := by
  refine Met.ofW (cc := cX12_isWord) (maxL := 2) (ret := (some .boolean)) (by decide) rfl ?_
  intro p e s m args below meth c s₁ B hml hv
  obtain ⟨rfl, hsz, hP, hK, hD0⟩ := hv
  have hx := B.exec
  have hb := B.bytes
  have hr := B.returns
  have hts := atoms_spec (ws := wsX12_isWord) B.pre
  have hown : s.vm.findClass RX12 = some m.cls := findClass_of_methodNamed B.named
  have hlocks := B.notSynchronized
  have hin12 : ∀ w ∈ u_ws RX12 TX12 52, w ∈ wsX12_isWord := by decide +kernel
  subst hsz
  have hD := hD0.self (sz := s.heap.size)
  generalize hAe : va_A [(o, .inr (12, [.int kthrown, .ref ktape, .int (nI ktaped), .int (nI ksize), .int (nI klimit), .int (nI kto), .int (nI kfrom), .int kkind, .int knumber, .int ksign, .int kfault, .int kplace, .long kword, .int ktold, .ref know, .ref kread, .ref kkept, .ref ksnaps, .ref kaside, .ref kname, .ref kreadName, .ref kkeptName, .ref kisKept, .ref konces, .int (nI ksnapMany), .int khasCells, .ref kpoured, .ref kfar, .ref ksides, .int (nI ksideMany), .int kwayDays, .int khasWay, .ref klines, .ref kmet, .int (nI kmetMany), .ref ksunk, .ref ktrying, .int (nI ksunkMany), .int ksending, .int kfleets, .ref ktext, .int (nI ktexts), .int kseed, .ref kline, .ref kwritten, .int (nI klineMany), .int khasWritten, .ref knode, .int (nI knodes), .int (nI konesMany), .int (nI kwithin), .int (nI ktop)])), (ktape, .inl (ky 0, 940, .inl ktapeF))] s.heap.size = A at hD ⊢
  have hA : ∀ q : Nat, s.heap.size ≤ q → A q := fun q h => by rw [← hAe]; exact Or.inr h
  have hS : va_S A s.heap s.heap [] := va_S.rf
  have hl := lv_entry ([.ref o, .int (nI 3)]) (n := 2) (Nat.le_of_ble_eq_true rfl)
  rw [lg_entry_eq]
  generalize (lg_sl ([.ref o, .int (nI 3)]) ++ List.replicate (2 - (lg_sl ([.ref o, .int (nI 3)])).length) Slot.unset).toArray = ls at hl ⊢
  have hl : lv_has ls 2 [(0, .ref o), (1, .int (nI 3))] := hl
  refine q_name (fun Q hQ => ?_)
  generalize ([.ref o, .int (nI 3)] : List Value).toArray = args at hts hQ ⊢
  refine lv_aload_n hx hb dX12_isWord_0 rfl (lv_at hl 0 rfl) ?_
  refine va_get (D := (dC, dI)) (ci := 12) (v := .int kkind) (C := RX12) (T := TX12) (N := 52) hx hb hts hin12 hown hK hP 0 rfl rfl 7 (by decide) (hts (.fieldLink RX12 30 "PorridgeSeaModel" "kind" "I") (List.mem_of_getElem? (i := 1) rfl)) (fun _ h9 => h9) rfl dX12_isWord_1 ?_
  refine lv_iconst (v := nI 2) hx hb dX12_isWord_4 (by decide) ?_
  refine lv_icmp_ne (tgt := 24) hx hb dX12_isWord_5 (by decide) (fun c1 => ?_) (fun c1 => ?_)
  · refine lv_iconst (v := nI 0) hx hb dX12_isWord_24 (by decide) ?_
    rw [hQ]
    exact W.zret (v := nI 0) hx hb hr (by decide) (fun t9 ht9 hW9 => ⟨⟨nI 0, (), rfl, (lf_g_isWord3_1 bt ksize klimit kto kfrom kkind knumber ksign kword ktapeF hp iv_ko_1 iv_ko_2 iv_ko_3 iv_ko_4 hTM hMT c1), by rw [ht9]; exact hP, va_K.moved hW9.alike hK, hD⟩, hS.F ht9⟩) hS.2.2 dX12_isWord_25
  · refine lv_aload_n hx hb dX12_isWord_8 rfl (lv_at hl 0 rfl) ?_
    refine va_get (D := (dC, dI)) (ci := 12) (v := .long kword) (C := RX12) (T := TX12) (N := 52) hx hb hts hin12 hown hK hP 0 rfl rfl 12 (by decide) (hts (.fieldLink RX12 43 "PorridgeSeaModel" "word" "J") (List.mem_of_getElem? (i := 2) rfl)) (fun _ h9 => h9) rfl dX12_isWord_9 ?_
    refine lv_iload_n hx hb dX12_isWord_12 rfl (lv_at hl 1 rfl) ?_
    refine r_call_l (wr := [(o, .inr (12, [.int kthrown, .ref ktape, .int (nI ktaped), .int (nI ksize), .int (nI klimit), .int (nI kto), .int (nI kfrom), .int kkind, .int knumber, .int ksign, .int kfault, .int kplace, .long kword, .int ktold, .ref know, .ref kread, .ref kkept, .ref ksnaps, .ref kaside, .ref kname, .ref kreadName, .ref kkeptName, .ref kisKept, .ref konces, .int (nI ksnapMany), .int khasCells, .ref kpoured, .ref kfar, .ref ksides, .int (nI ksideMany), .int kwayDays, .int khasWay, .ref klines, .ref kmet, .int (nI kmetMany), .ref ksunk, .ref ktrying, .int (nI ksunkMany), .int ksending, .int kfleets, .ref ktext, .int (nI ktexts), .int kseed, .ref kline, .ref kwritten, .int (nI klineMany), .int khasWritten, .ref knode, .int (nI knodes), .int (nI konesMany), .int (nI kwithin), .int (nI ktop)])), (ktape, .inl (ky 0, 940, .inl ktapeF))]) (va_runS (As := [.int (nI 3)]) (rest := [.long kword]) ⟨hx, hb, hml, hown, hts⟩ (c_g_wordOf l dC dI ky s.heap.size (nI 3)) (va_cwS 1 hts gX12_isWord_X12_wordOf rfl rfl rfl (by decide +kernel) ⟨(Nat.le_of_ble_eq_true rfl), (Nat.le_of_ble_eq_true rfl)⟩) (pre_US hK hP hD [] (by decide) rfl) rfl rfl hl.1 rfl (lv_room (Nat.le_of_ble_eq_true rfl)) dX12_isWord_13 ⟨(Nat.le_of_ble_eq_true rfl), (Nat.le_of_ble_eq_true rfl)⟩) hP hD hS hA [] [0, 1] rfl rfl (by decide) (by decide) (fun r4 u2 H locs p3 hP hD hS => ?_)
    try dsimp only at p3
    have p5 := p3
    refine W.widen (k := 0) (n := 0) (Nat.le_of_ble_eq_true rfl) (Nat.le_of_ble_eq_true rfl) ?_
    have hP : va_P (dC, dI) vwCl [(o, .inr (12, [.int kthrown, .ref ktape, .int (nI ktaped), .int (nI ksize), .int (nI klimit), .int (nI kto), .int (nI kfrom), .int kkind, .int knumber, .int ksign, .int kfault, .int kplace, .long kword, .int ktold, .ref know, .ref kread, .ref kkept, .ref ksnaps, .ref kaside, .ref kname, .ref kreadName, .ref kkeptName, .ref kisKept, .ref konces, .int (nI ksnapMany), .int khasCells, .ref kpoured, .ref kfar, .ref ksides, .int (nI ksideMany), .int kwayDays, .int khasWay, .ref klines, .ref kmet, .int (nI kmetMany), .ref ksunk, .ref ktrying, .int (nI ksunkMany), .int ksending, .int kfleets, .ref ktext, .int (nI ktexts), .int kseed, .ref kline, .ref kwritten, .int (nI klineMany), .int khasWritten, .ref knode, .int (nI knodes), .int (nI konesMany), .int (nI kwithin), .int (nI ktop)])), (ktape, .inl (ky 0, 940, .inl ktapeF))] H := hP
    have hD : va_D A [(o, .inr (12, [.int kthrown, .ref ktape, .int (nI ktaped), .int (nI ksize), .int (nI klimit), .int (nI kto), .int (nI kfrom), .int kkind, .int knumber, .int ksign, .int kfault, .int kplace, .long kword, .int ktold, .ref know, .ref kread, .ref kkept, .ref ksnaps, .ref kaside, .ref kname, .ref kreadName, .ref kkeptName, .ref kisKept, .ref konces, .int (nI ksnapMany), .int khasCells, .ref kpoured, .ref kfar, .ref ksides, .int (nI ksideMany), .int kwayDays, .int khasWay, .ref klines, .ref kmet, .int (nI kmetMany), .ref ksunk, .ref ktrying, .int (nI ksunkMany), .int ksending, .int kfleets, .ref ktext, .int (nI ktexts), .int kseed, .ref kline, .ref kwritten, .int (nI klineMany), .int khasWritten, .ref knode, .int (nI knodes), .int (nI konesMany), .int (nI kwithin), .int (nI ktop)])), (ktape, .inl (ky 0, 940, .inl ktapeF))] := hD
    refine W.lcmp hx hb dX12_isWord_16 ?_
    refine lv_topi (fun y6 e7 => ?_)
    refine lv_if_ne (tgt := 24) hx hb dX12_isWord_17 (by decide) (fun c8 => ?_) (fun c8 => ?_)
    · refine lv_iconst (v := nI 0) hx hb dX12_isWord_24 (by decide) ?_
      rw [hQ]
      exact W.zret (v := nI 0) hx hb hr (by decide) (fun t9 ht9 hW9 => ⟨⟨nI 0, (), rfl, (lf_g_isWord3_2 bt ksize klimit kto kfrom kkind knumber ksign kword ktapeF hp r4 y6 iv_ko_1 iv_ko_2 iv_ko_3 iv_ko_4 hTM hMT c1 p5 e7 c8), by rw [ht9]; exact hP, va_K.moved hW9.alike hK, hD⟩, hS.F ht9⟩) hS.2.2 dX12_isWord_25
    · refine lv_iconst (v := nI 1) hx hb dX12_isWord_20 (by decide) ?_
      refine lv_goto (tgt := 25) hx hb dX12_isWord_21 (by decide) ?_
      rw [hQ]
      exact W.zret (v := nI 1) hx hb hr (by decide) (fun t9 ht9 hW9 => ⟨⟨nI 1, (), rfl, (lf_g_isWord3_3 bt ksize klimit kto kfrom kkind knumber ksign kword ktapeF hp r4 y6 iv_ko_1 iv_ko_2 iv_ko_3 iv_ko_4 hTM hMT c1 p5 e7 c8), by rw [ht9]; exact hP, va_K.moved hW9.alike hK, hD⟩, hS.F ht9⟩) hS.2.2 dX12_isWord_25
set_option maxRecDepth 20000 in
theorem lf_g_isWord4_1 (bt : Nat → Nat) (ksize : Nat) (klimit : Nat) (kto : Nat) (kfrom : Nat) (kkind : Int32) (knumber : Int32) (ksign : Int32) (kword : Int64) (ktapeF : Nat → Int32) (hp : Nat) (iv_ko_1 : ksize ≤ 940) (iv_ko_2 : klimit ≤ 900) (iv_ko_3 : kto ≤ ksize) (iv_ko_4 : kfrom ≤ 940) (hTM : TM bt ktapeF) (hMT : MT bt ksize klimit hp kkind ksign kfrom kto knumber kword) (c1 : kkind ≠ nI 2) : ((nI 0) = nI 1 ∧ (tW bt ksize klimit hp = 4)) ∨ ((nI 0) = nI 0 ∧ (¬ tW bt ksize klimit hp = 4)) := by
  first
    | (refine Or.inl ⟨rfl, isW_t hMT (by decide) (by assumption) (by assumption) ?_⟩; subst_vars; exact (lg0 _ _).mp (by first | assumption | exact Eq.symm (by assumption)))
    | (refine Or.inr ⟨rfl, isW_f hMT (by decide) (by assumption) (fun z => ?_)⟩; subst_vars; exact absurd ((lg0 _ _).mpr rfl) (by assumption))
    | exact Or.inr ⟨rfl, isW_n hMT (by decide) (by assumption)⟩
set_option maxRecDepth 20000 in
theorem lf_g_isWord4_2 (bt : Nat → Nat) (ksize : Nat) (klimit : Nat) (kto : Nat) (kfrom : Nat) (kkind : Int32) (knumber : Int32) (ksign : Int32) (kword : Int64) (ktapeF : Nat → Int32) (hp : Nat) (r4 : Int64) (y6 : Int32) (iv_ko_1 : ksize ≤ 940) (iv_ko_2 : klimit ≤ 900) (iv_ko_3 : kto ≤ ksize) (iv_ko_4 : kfrom ≤ 940) (hTM : TM bt ktapeF) (hMT : MT bt ksize klimit hp kkind ksign kfrom kto knumber kword) (c1 : kkind = nI 2) (p5 : WOf (nI 4) r4) (e7 : y6 = lg_cmp kword r4) (c8 : y6 ≠ 0) : ((nI 0) = nI 1 ∧ (tW bt ksize klimit hp = 4)) ∨ ((nI 0) = nI 0 ∧ (¬ tW bt ksize klimit hp = 4)) := by
  first
    | (refine Or.inl ⟨rfl, isW_t hMT (by decide) (by assumption) (by assumption) ?_⟩; subst_vars; exact (lg0 _ _).mp (by first | assumption | exact Eq.symm (by assumption)))
    | (refine Or.inr ⟨rfl, isW_f hMT (by decide) (by assumption) (fun z => ?_)⟩; subst_vars; exact absurd ((lg0 _ _).mpr rfl) (by assumption))
    | exact Or.inr ⟨rfl, isW_n hMT (by decide) (by assumption)⟩
set_option maxRecDepth 20000 in
theorem lf_g_isWord4_3 (bt : Nat → Nat) (ksize : Nat) (klimit : Nat) (kto : Nat) (kfrom : Nat) (kkind : Int32) (knumber : Int32) (ksign : Int32) (kword : Int64) (ktapeF : Nat → Int32) (hp : Nat) (r4 : Int64) (y6 : Int32) (iv_ko_1 : ksize ≤ 940) (iv_ko_2 : klimit ≤ 900) (iv_ko_3 : kto ≤ ksize) (iv_ko_4 : kfrom ≤ 940) (hTM : TM bt ktapeF) (hMT : MT bt ksize klimit hp kkind ksign kfrom kto knumber kword) (c1 : kkind = nI 2) (p5 : WOf (nI 4) r4) (e7 : y6 = lg_cmp kword r4) (c8 : y6 = 0) : ((nI 1) = nI 1 ∧ (tW bt ksize klimit hp = 4)) ∨ ((nI 1) = nI 0 ∧ (¬ tW bt ksize klimit hp = 4)) := by
  first
    | (refine Or.inl ⟨rfl, isW_t hMT (by decide) (by assumption) (by assumption) ?_⟩; subst_vars; exact (lg0 _ _).mp (by first | assumption | exact Eq.symm (by assumption)))
    | (refine Or.inr ⟨rfl, isW_f hMT (by decide) (by assumption) (fun z => ?_)⟩; subst_vars; exact absurd ((lg0 _ _).mpr rfl) (by assumption))
    | exact Or.inr ⟨rfl, isW_n hMT (by decide) (by assumption)⟩
set_option maxHeartbeats 4000000 in
set_option maxRecDepth 100000 in
theorem c_g_isWord4 (l : Launch) (dC : Nat → ClassId) (dI : Nat → Nat → Nat) (ky : Nat → ClassId) (sz : Nat) (bt : Nat → Nat) (o : Nat) (kthrown : Int32) (ktape : Nat) (ktaped : Nat) (ksize : Nat) (klimit : Nat) (kto : Nat) (kfrom : Nat) (kkind : Int32) (knumber : Int32) (ksign : Int32) (kfault : Int32) (kplace : Int32) (kword : Int64) (ktold : Int32) (know : Nat) (kread : Nat) (kkept : Nat) (ksnaps : Nat) (kaside : Nat) (kname : Nat) (kreadName : Nat) (kkeptName : Nat) (kisKept : Nat) (konces : Nat) (ksnapMany : Nat) (khasCells : Int32) (kpoured : Nat) (kfar : Nat) (ksides : Nat) (ksideMany : Nat) (kwayDays : Int32) (khasWay : Int32) (klines : Nat) (kmet : Nat) (kmetMany : Nat) (ksunk : Nat) (ktrying : Nat) (ksunkMany : Nat) (ksending : Int32) (kfleets : Int32) (ktext : Nat) (ktexts : Nat) (kseed : Int32) (kline : Nat) (kwritten : Nat) (klineMany : Nat) (khasWritten : Int32) (knode : Nat) (knodes : Nat) (konesMany : Nat) (kwithin : Nat) (ktop : Nat) (ktapeF : Nat → Int32) (hp : Nat) (iv_ko_0 : ktaped ≤ 940) (iv_ko_1 : ksize ≤ 940) (iv_ko_2 : klimit ≤ 900) (iv_ko_3 : kto ≤ ksize) (iv_ko_4 : kfrom ≤ 940) (iv_ko_5 : ksnapMany ≤ 8) (iv_ko_6 : ksideMany ≤ 36) (iv_ko_7 : kmetMany ≤ 3) (iv_ko_8 : ksunkMany ≤ 36) (iv_ko_9 : ktexts ≤ 64) (iv_ko_10 : klineMany ≤ 40) (iv_ko_11 : knodes ≤ 60) (iv_ko_12 : konesMany ≤ 20) (iv_ko_13 : kwithin ≤ 8) (iv_ko_14 : ktop ≤ 59) (hTM : TM bt ktapeF) (hMT : MT bt ksize klimit hp kkind ksign kfrom kto knumber kword) : Met l yX12_isWord wsX12_isWord ({ frames := 2, cells := 0, slots := 0, locals := 47 }) (PcU dC dI ky [.ref o, .int (nI 4)] [(o, .inr (12, [.int kthrown, .ref ktape, .int (nI ktaped), .int (nI ksize), .int (nI klimit), .int (nI kto), .int (nI kfrom), .int kkind, .int knumber, .int ksign, .int kfault, .int kplace, .long kword, .int ktold, .ref know, .ref kread, .ref kkept, .ref ksnaps, .ref kaside, .ref kname, .ref kreadName, .ref kkeptName, .ref kisKept, .ref konces, .int (nI ksnapMany), .int khasCells, .ref kpoured, .ref kfar, .ref ksides, .int (nI ksideMany), .int kwayDays, .int khasWay, .ref klines, .ref kmet, .int (nI kmetMany), .ref ksunk, .ref ktrying, .int (nI ksunkMany), .int ksending, .int kfleets, .ref ktext, .int (nI ktexts), .int kseed, .ref kline, .ref kwritten, .int (nI klineMany), .int khasWritten, .ref knode, .int (nI knodes), .int (nI konesMany), .int (nI kwithin), .int (nI ktop)])), (ktape, .inl (ky 0, 940, .inl ktapeF))] sz) (va_Qi (fun (r : Int32) (_ : Unit) => (r = nI 1 ∧ (tW bt ksize klimit hp = 4)) ∨ (r = nI 0 ∧ (¬ tW bt ksize klimit hp = 4))) (BU dC dI ky (fun (_ : Unit) => [(o, .inr (12, [.int kthrown, .ref ktape, .int (nI ktaped), .int (nI ksize), .int (nI klimit), .int (nI kto), .int (nI kfrom), .int kkind, .int knumber, .int ksign, .int kfault, .int kplace, .long kword, .int ktold, .ref know, .ref kread, .ref kkept, .ref ksnaps, .ref kaside, .ref kname, .ref kreadName, .ref kkeptName, .ref kisKept, .ref konces, .int (nI ksnapMany), .int khasCells, .ref kpoured, .ref kfar, .ref ksides, .int (nI ksideMany), .int kwayDays, .int khasWay, .ref klines, .ref kmet, .int (nI kmetMany), .ref ksunk, .ref ktrying, .int (nI ksunkMany), .int ksending, .int kfleets, .ref ktext, .int (nI ktexts), .int kseed, .ref kline, .ref kwritten, .int (nI klineMany), .int khasWritten, .ref knode, .int (nI knodes), .int (nI konesMany), .int (nI kwithin), .int (nI ktop)])), (ktape, .inl (ky 0, 940, .inl ktapeF))]) (va_A [(o, .inr (12, [.int kthrown, .ref ktape, .int (nI ktaped), .int (nI ksize), .int (nI klimit), .int (nI kto), .int (nI kfrom), .int kkind, .int knumber, .int ksign, .int kfault, .int kplace, .long kword, .int ktold, .ref know, .ref kread, .ref kkept, .ref ksnaps, .ref kaside, .ref kname, .ref kreadName, .ref kkeptName, .ref kisKept, .ref konces, .int (nI ksnapMany), .int khasCells, .ref kpoured, .ref kfar, .ref ksides, .int (nI ksideMany), .int kwayDays, .int khasWay, .ref klines, .ref kmet, .int (nI kmetMany), .ref ksunk, .ref ktrying, .int (nI ksunkMany), .int ksending, .int kfleets, .ref ktext, .int (nI ktexts), .int kseed, .ref kline, .ref kwritten, .int (nI klineMany), .int khasWritten, .ref knode, .int (nI knodes), .int (nI konesMany), .int (nI kwithin), .int (nI ktop)])), (ktape, .inl (ky 0, 940, .inl ktapeF))] sz)) (va_A [(o, .inr (12, [.int kthrown, .ref ktape, .int (nI ktaped), .int (nI ksize), .int (nI klimit), .int (nI kto), .int (nI kfrom), .int kkind, .int knumber, .int ksign, .int kfault, .int kplace, .long kword, .int ktold, .ref know, .ref kread, .ref kkept, .ref ksnaps, .ref kaside, .ref kname, .ref kreadName, .ref kkeptName, .ref kisKept, .ref konces, .int (nI ksnapMany), .int khasCells, .ref kpoured, .ref kfar, .ref ksides, .int (nI ksideMany), .int kwayDays, .int khasWay, .ref klines, .ref kmet, .int (nI kmetMany), .ref ksunk, .ref ktrying, .int (nI ksunkMany), .int ksending, .int kfleets, .ref ktext, .int (nI ktexts), .int kseed, .ref kline, .ref kwritten, .int (nI klineMany), .int khasWritten, .ref knode, .int (nI knodes), .int (nI konesMany), .int (nI kwithin), .int (nI ktop)])), (ktape, .inl (ky 0, 940, .inl ktapeF))] sz)) 0 0 (va_A [(o, .inr (12, [.int kthrown, .ref ktape, .int (nI ktaped), .int (nI ksize), .int (nI klimit), .int (nI kto), .int (nI kfrom), .int kkind, .int knumber, .int ksign, .int kfault, .int kplace, .long kword, .int ktold, .ref know, .ref kread, .ref kkept, .ref ksnaps, .ref kaside, .ref kname, .ref kreadName, .ref kkeptName, .ref kisKept, .ref konces, .int (nI ksnapMany), .int khasCells, .ref kpoured, .ref kfar, .ref ksides, .int (nI ksideMany), .int kwayDays, .int khasWay, .ref klines, .ref kmet, .int (nI kmetMany), .ref ksunk, .ref ktrying, .int (nI ksunkMany), .int ksending, .int kfleets, .ref ktext, .int (nI ktexts), .int kseed, .ref kline, .ref kwritten, .int (nI klineMany), .int khasWritten, .ref knode, .int (nI knodes), .int (nI konesMany), .int (nI kwithin), .int (nI ktop)])), (ktape, .inl (ky 0, 940, .inl ktapeF))] sz) := by
  refine Met.ofW (cc := cX12_isWord) (maxL := 2) (ret := (some .boolean)) (by decide) rfl ?_
  intro p e s m args below meth c s₁ B hml hv
  obtain ⟨rfl, hsz, hP, hK, hD0⟩ := hv
  have hx := B.exec
  have hb := B.bytes
  have hr := B.returns
  have hts := atoms_spec (ws := wsX12_isWord) B.pre
  have hown : s.vm.findClass RX12 = some m.cls := findClass_of_methodNamed B.named
  have hlocks := B.notSynchronized
  have hin12 : ∀ w ∈ u_ws RX12 TX12 52, w ∈ wsX12_isWord := by decide +kernel
  subst hsz
  have hD := hD0.self (sz := s.heap.size)
  generalize hAe : va_A [(o, .inr (12, [.int kthrown, .ref ktape, .int (nI ktaped), .int (nI ksize), .int (nI klimit), .int (nI kto), .int (nI kfrom), .int kkind, .int knumber, .int ksign, .int kfault, .int kplace, .long kword, .int ktold, .ref know, .ref kread, .ref kkept, .ref ksnaps, .ref kaside, .ref kname, .ref kreadName, .ref kkeptName, .ref kisKept, .ref konces, .int (nI ksnapMany), .int khasCells, .ref kpoured, .ref kfar, .ref ksides, .int (nI ksideMany), .int kwayDays, .int khasWay, .ref klines, .ref kmet, .int (nI kmetMany), .ref ksunk, .ref ktrying, .int (nI ksunkMany), .int ksending, .int kfleets, .ref ktext, .int (nI ktexts), .int kseed, .ref kline, .ref kwritten, .int (nI klineMany), .int khasWritten, .ref knode, .int (nI knodes), .int (nI konesMany), .int (nI kwithin), .int (nI ktop)])), (ktape, .inl (ky 0, 940, .inl ktapeF))] s.heap.size = A at hD ⊢
  have hA : ∀ q : Nat, s.heap.size ≤ q → A q := fun q h => by rw [← hAe]; exact Or.inr h
  have hS : va_S A s.heap s.heap [] := va_S.rf
  have hl := lv_entry ([.ref o, .int (nI 4)]) (n := 2) (Nat.le_of_ble_eq_true rfl)
  rw [lg_entry_eq]
  generalize (lg_sl ([.ref o, .int (nI 4)]) ++ List.replicate (2 - (lg_sl ([.ref o, .int (nI 4)])).length) Slot.unset).toArray = ls at hl ⊢
  have hl : lv_has ls 2 [(0, .ref o), (1, .int (nI 4))] := hl
  refine q_name (fun Q hQ => ?_)
  generalize ([.ref o, .int (nI 4)] : List Value).toArray = args at hts hQ ⊢
  refine lv_aload_n hx hb dX12_isWord_0 rfl (lv_at hl 0 rfl) ?_
  refine va_get (D := (dC, dI)) (ci := 12) (v := .int kkind) (C := RX12) (T := TX12) (N := 52) hx hb hts hin12 hown hK hP 0 rfl rfl 7 (by decide) (hts (.fieldLink RX12 30 "PorridgeSeaModel" "kind" "I") (List.mem_of_getElem? (i := 1) rfl)) (fun _ h9 => h9) rfl dX12_isWord_1 ?_
  refine lv_iconst (v := nI 2) hx hb dX12_isWord_4 (by decide) ?_
  refine lv_icmp_ne (tgt := 24) hx hb dX12_isWord_5 (by decide) (fun c1 => ?_) (fun c1 => ?_)
  · refine lv_iconst (v := nI 0) hx hb dX12_isWord_24 (by decide) ?_
    rw [hQ]
    exact W.zret (v := nI 0) hx hb hr (by decide) (fun t9 ht9 hW9 => ⟨⟨nI 0, (), rfl, (lf_g_isWord4_1 bt ksize klimit kto kfrom kkind knumber ksign kword ktapeF hp iv_ko_1 iv_ko_2 iv_ko_3 iv_ko_4 hTM hMT c1), by rw [ht9]; exact hP, va_K.moved hW9.alike hK, hD⟩, hS.F ht9⟩) hS.2.2 dX12_isWord_25
  · refine lv_aload_n hx hb dX12_isWord_8 rfl (lv_at hl 0 rfl) ?_
    refine va_get (D := (dC, dI)) (ci := 12) (v := .long kword) (C := RX12) (T := TX12) (N := 52) hx hb hts hin12 hown hK hP 0 rfl rfl 12 (by decide) (hts (.fieldLink RX12 43 "PorridgeSeaModel" "word" "J") (List.mem_of_getElem? (i := 2) rfl)) (fun _ h9 => h9) rfl dX12_isWord_9 ?_
    refine lv_iload_n hx hb dX12_isWord_12 rfl (lv_at hl 1 rfl) ?_
    refine r_call_l (wr := [(o, .inr (12, [.int kthrown, .ref ktape, .int (nI ktaped), .int (nI ksize), .int (nI klimit), .int (nI kto), .int (nI kfrom), .int kkind, .int knumber, .int ksign, .int kfault, .int kplace, .long kword, .int ktold, .ref know, .ref kread, .ref kkept, .ref ksnaps, .ref kaside, .ref kname, .ref kreadName, .ref kkeptName, .ref kisKept, .ref konces, .int (nI ksnapMany), .int khasCells, .ref kpoured, .ref kfar, .ref ksides, .int (nI ksideMany), .int kwayDays, .int khasWay, .ref klines, .ref kmet, .int (nI kmetMany), .ref ksunk, .ref ktrying, .int (nI ksunkMany), .int ksending, .int kfleets, .ref ktext, .int (nI ktexts), .int kseed, .ref kline, .ref kwritten, .int (nI klineMany), .int khasWritten, .ref knode, .int (nI knodes), .int (nI konesMany), .int (nI kwithin), .int (nI ktop)])), (ktape, .inl (ky 0, 940, .inl ktapeF))]) (va_runS (As := [.int (nI 4)]) (rest := [.long kword]) ⟨hx, hb, hml, hown, hts⟩ (c_g_wordOf l dC dI ky s.heap.size (nI 4)) (va_cwS 1 hts gX12_isWord_X12_wordOf rfl rfl rfl (by decide +kernel) ⟨(Nat.le_of_ble_eq_true rfl), (Nat.le_of_ble_eq_true rfl)⟩) (pre_US hK hP hD [] (by decide) rfl) rfl rfl hl.1 rfl (lv_room (Nat.le_of_ble_eq_true rfl)) dX12_isWord_13 ⟨(Nat.le_of_ble_eq_true rfl), (Nat.le_of_ble_eq_true rfl)⟩) hP hD hS hA [] [0, 1] rfl rfl (by decide) (by decide) (fun r4 u2 H locs p3 hP hD hS => ?_)
    try dsimp only at p3
    have p5 := p3
    refine W.widen (k := 0) (n := 0) (Nat.le_of_ble_eq_true rfl) (Nat.le_of_ble_eq_true rfl) ?_
    have hP : va_P (dC, dI) vwCl [(o, .inr (12, [.int kthrown, .ref ktape, .int (nI ktaped), .int (nI ksize), .int (nI klimit), .int (nI kto), .int (nI kfrom), .int kkind, .int knumber, .int ksign, .int kfault, .int kplace, .long kword, .int ktold, .ref know, .ref kread, .ref kkept, .ref ksnaps, .ref kaside, .ref kname, .ref kreadName, .ref kkeptName, .ref kisKept, .ref konces, .int (nI ksnapMany), .int khasCells, .ref kpoured, .ref kfar, .ref ksides, .int (nI ksideMany), .int kwayDays, .int khasWay, .ref klines, .ref kmet, .int (nI kmetMany), .ref ksunk, .ref ktrying, .int (nI ksunkMany), .int ksending, .int kfleets, .ref ktext, .int (nI ktexts), .int kseed, .ref kline, .ref kwritten, .int (nI klineMany), .int khasWritten, .ref knode, .int (nI knodes), .int (nI konesMany), .int (nI kwithin), .int (nI ktop)])), (ktape, .inl (ky 0, 940, .inl ktapeF))] H := hP
    have hD : va_D A [(o, .inr (12, [.int kthrown, .ref ktape, .int (nI ktaped), .int (nI ksize), .int (nI klimit), .int (nI kto), .int (nI kfrom), .int kkind, .int knumber, .int ksign, .int kfault, .int kplace, .long kword, .int ktold, .ref know, .ref kread, .ref kkept, .ref ksnaps, .ref kaside, .ref kname, .ref kreadName, .ref kkeptName, .ref kisKept, .ref konces, .int (nI ksnapMany), .int khasCells, .ref kpoured, .ref kfar, .ref ksides, .int (nI ksideMany), .int kwayDays, .int khasWay, .ref klines, .ref kmet, .int (nI kmetMany), .ref ksunk, .ref ktrying, .int (nI ksunkMany), .int ksending, .int kfleets, .ref ktext, .int (nI ktexts), .int kseed, .ref kline, .ref kwritten, .int (nI klineMany), .int khasWritten, .ref knode, .int (nI knodes), .int (nI konesMany), .int (nI kwithin), .int (nI ktop)])), (ktape, .inl (ky 0, 940, .inl ktapeF))] := hD
    refine W.lcmp hx hb dX12_isWord_16 ?_
    refine lv_topi (fun y6 e7 => ?_)
    refine lv_if_ne (tgt := 24) hx hb dX12_isWord_17 (by decide) (fun c8 => ?_) (fun c8 => ?_)
    · refine lv_iconst (v := nI 0) hx hb dX12_isWord_24 (by decide) ?_
      rw [hQ]
      exact W.zret (v := nI 0) hx hb hr (by decide) (fun t9 ht9 hW9 => ⟨⟨nI 0, (), rfl, (lf_g_isWord4_2 bt ksize klimit kto kfrom kkind knumber ksign kword ktapeF hp r4 y6 iv_ko_1 iv_ko_2 iv_ko_3 iv_ko_4 hTM hMT c1 p5 e7 c8), by rw [ht9]; exact hP, va_K.moved hW9.alike hK, hD⟩, hS.F ht9⟩) hS.2.2 dX12_isWord_25
    · refine lv_iconst (v := nI 1) hx hb dX12_isWord_20 (by decide) ?_
      refine lv_goto (tgt := 25) hx hb dX12_isWord_21 (by decide) ?_
      rw [hQ]
      exact W.zret (v := nI 1) hx hb hr (by decide) (fun t9 ht9 hW9 => ⟨⟨nI 1, (), rfl, (lf_g_isWord4_3 bt ksize klimit kto kfrom kkind knumber ksign kword ktapeF hp r4 y6 iv_ko_1 iv_ko_2 iv_ko_3 iv_ko_4 hTM hMT c1 p5 e7 c8), by rw [ht9]; exact hP, va_K.moved hW9.alike hK, hD⟩, hS.F ht9⟩) hS.2.2 dX12_isWord_25
set_option maxRecDepth 20000 in
theorem lf_g_isWord5_1 (bt : Nat → Nat) (ksize : Nat) (klimit : Nat) (kto : Nat) (kfrom : Nat) (kkind : Int32) (knumber : Int32) (ksign : Int32) (kword : Int64) (ktapeF : Nat → Int32) (hp : Nat) (iv_ko_1 : ksize ≤ 940) (iv_ko_2 : klimit ≤ 900) (iv_ko_3 : kto ≤ ksize) (iv_ko_4 : kfrom ≤ 940) (hTM : TM bt ktapeF) (hMT : MT bt ksize klimit hp kkind ksign kfrom kto knumber kword) (c1 : kkind ≠ nI 2) : ((nI 0) = nI 1 ∧ (tW bt ksize klimit hp = 5)) ∨ ((nI 0) = nI 0 ∧ (¬ tW bt ksize klimit hp = 5)) := by
  first
    | (refine Or.inl ⟨rfl, isW_t hMT (by decide) (by assumption) (by assumption) ?_⟩; subst_vars; exact (lg0 _ _).mp (by first | assumption | exact Eq.symm (by assumption)))
    | (refine Or.inr ⟨rfl, isW_f hMT (by decide) (by assumption) (fun z => ?_)⟩; subst_vars; exact absurd ((lg0 _ _).mpr rfl) (by assumption))
    | exact Or.inr ⟨rfl, isW_n hMT (by decide) (by assumption)⟩
set_option maxRecDepth 20000 in
theorem lf_g_isWord5_2 (bt : Nat → Nat) (ksize : Nat) (klimit : Nat) (kto : Nat) (kfrom : Nat) (kkind : Int32) (knumber : Int32) (ksign : Int32) (kword : Int64) (ktapeF : Nat → Int32) (hp : Nat) (r4 : Int64) (y6 : Int32) (iv_ko_1 : ksize ≤ 940) (iv_ko_2 : klimit ≤ 900) (iv_ko_3 : kto ≤ ksize) (iv_ko_4 : kfrom ≤ 940) (hTM : TM bt ktapeF) (hMT : MT bt ksize klimit hp kkind ksign kfrom kto knumber kword) (c1 : kkind = nI 2) (p5 : WOf (nI 5) r4) (e7 : y6 = lg_cmp kword r4) (c8 : y6 ≠ 0) : ((nI 0) = nI 1 ∧ (tW bt ksize klimit hp = 5)) ∨ ((nI 0) = nI 0 ∧ (¬ tW bt ksize klimit hp = 5)) := by
  first
    | (refine Or.inl ⟨rfl, isW_t hMT (by decide) (by assumption) (by assumption) ?_⟩; subst_vars; exact (lg0 _ _).mp (by first | assumption | exact Eq.symm (by assumption)))
    | (refine Or.inr ⟨rfl, isW_f hMT (by decide) (by assumption) (fun z => ?_)⟩; subst_vars; exact absurd ((lg0 _ _).mpr rfl) (by assumption))
    | exact Or.inr ⟨rfl, isW_n hMT (by decide) (by assumption)⟩
set_option maxRecDepth 20000 in
theorem lf_g_isWord5_3 (bt : Nat → Nat) (ksize : Nat) (klimit : Nat) (kto : Nat) (kfrom : Nat) (kkind : Int32) (knumber : Int32) (ksign : Int32) (kword : Int64) (ktapeF : Nat → Int32) (hp : Nat) (r4 : Int64) (y6 : Int32) (iv_ko_1 : ksize ≤ 940) (iv_ko_2 : klimit ≤ 900) (iv_ko_3 : kto ≤ ksize) (iv_ko_4 : kfrom ≤ 940) (hTM : TM bt ktapeF) (hMT : MT bt ksize klimit hp kkind ksign kfrom kto knumber kword) (c1 : kkind = nI 2) (p5 : WOf (nI 5) r4) (e7 : y6 = lg_cmp kword r4) (c8 : y6 = 0) : ((nI 1) = nI 1 ∧ (tW bt ksize klimit hp = 5)) ∨ ((nI 1) = nI 0 ∧ (¬ tW bt ksize klimit hp = 5)) := by
  first
    | (refine Or.inl ⟨rfl, isW_t hMT (by decide) (by assumption) (by assumption) ?_⟩; subst_vars; exact (lg0 _ _).mp (by first | assumption | exact Eq.symm (by assumption)))
    | (refine Or.inr ⟨rfl, isW_f hMT (by decide) (by assumption) (fun z => ?_)⟩; subst_vars; exact absurd ((lg0 _ _).mpr rfl) (by assumption))
    | exact Or.inr ⟨rfl, isW_n hMT (by decide) (by assumption)⟩
set_option maxHeartbeats 4000000 in
set_option maxRecDepth 100000 in
theorem c_g_isWord5 (l : Launch) (dC : Nat → ClassId) (dI : Nat → Nat → Nat) (ky : Nat → ClassId) (sz : Nat) (bt : Nat → Nat) (o : Nat) (kthrown : Int32) (ktape : Nat) (ktaped : Nat) (ksize : Nat) (klimit : Nat) (kto : Nat) (kfrom : Nat) (kkind : Int32) (knumber : Int32) (ksign : Int32) (kfault : Int32) (kplace : Int32) (kword : Int64) (ktold : Int32) (know : Nat) (kread : Nat) (kkept : Nat) (ksnaps : Nat) (kaside : Nat) (kname : Nat) (kreadName : Nat) (kkeptName : Nat) (kisKept : Nat) (konces : Nat) (ksnapMany : Nat) (khasCells : Int32) (kpoured : Nat) (kfar : Nat) (ksides : Nat) (ksideMany : Nat) (kwayDays : Int32) (khasWay : Int32) (klines : Nat) (kmet : Nat) (kmetMany : Nat) (ksunk : Nat) (ktrying : Nat) (ksunkMany : Nat) (ksending : Int32) (kfleets : Int32) (ktext : Nat) (ktexts : Nat) (kseed : Int32) (kline : Nat) (kwritten : Nat) (klineMany : Nat) (khasWritten : Int32) (knode : Nat) (knodes : Nat) (konesMany : Nat) (kwithin : Nat) (ktop : Nat) (ktapeF : Nat → Int32) (hp : Nat) (iv_ko_0 : ktaped ≤ 940) (iv_ko_1 : ksize ≤ 940) (iv_ko_2 : klimit ≤ 900) (iv_ko_3 : kto ≤ ksize) (iv_ko_4 : kfrom ≤ 940) (iv_ko_5 : ksnapMany ≤ 8) (iv_ko_6 : ksideMany ≤ 36) (iv_ko_7 : kmetMany ≤ 3) (iv_ko_8 : ksunkMany ≤ 36) (iv_ko_9 : ktexts ≤ 64) (iv_ko_10 : klineMany ≤ 40) (iv_ko_11 : knodes ≤ 60) (iv_ko_12 : konesMany ≤ 20) (iv_ko_13 : kwithin ≤ 8) (iv_ko_14 : ktop ≤ 59) (hTM : TM bt ktapeF) (hMT : MT bt ksize klimit hp kkind ksign kfrom kto knumber kword) : Met l yX12_isWord wsX12_isWord ({ frames := 2, cells := 0, slots := 0, locals := 47 }) (PcU dC dI ky [.ref o, .int (nI 5)] [(o, .inr (12, [.int kthrown, .ref ktape, .int (nI ktaped), .int (nI ksize), .int (nI klimit), .int (nI kto), .int (nI kfrom), .int kkind, .int knumber, .int ksign, .int kfault, .int kplace, .long kword, .int ktold, .ref know, .ref kread, .ref kkept, .ref ksnaps, .ref kaside, .ref kname, .ref kreadName, .ref kkeptName, .ref kisKept, .ref konces, .int (nI ksnapMany), .int khasCells, .ref kpoured, .ref kfar, .ref ksides, .int (nI ksideMany), .int kwayDays, .int khasWay, .ref klines, .ref kmet, .int (nI kmetMany), .ref ksunk, .ref ktrying, .int (nI ksunkMany), .int ksending, .int kfleets, .ref ktext, .int (nI ktexts), .int kseed, .ref kline, .ref kwritten, .int (nI klineMany), .int khasWritten, .ref knode, .int (nI knodes), .int (nI konesMany), .int (nI kwithin), .int (nI ktop)])), (ktape, .inl (ky 0, 940, .inl ktapeF))] sz) (va_Qi (fun (r : Int32) (_ : Unit) => (r = nI 1 ∧ (tW bt ksize klimit hp = 5)) ∨ (r = nI 0 ∧ (¬ tW bt ksize klimit hp = 5))) (BU dC dI ky (fun (_ : Unit) => [(o, .inr (12, [.int kthrown, .ref ktape, .int (nI ktaped), .int (nI ksize), .int (nI klimit), .int (nI kto), .int (nI kfrom), .int kkind, .int knumber, .int ksign, .int kfault, .int kplace, .long kword, .int ktold, .ref know, .ref kread, .ref kkept, .ref ksnaps, .ref kaside, .ref kname, .ref kreadName, .ref kkeptName, .ref kisKept, .ref konces, .int (nI ksnapMany), .int khasCells, .ref kpoured, .ref kfar, .ref ksides, .int (nI ksideMany), .int kwayDays, .int khasWay, .ref klines, .ref kmet, .int (nI kmetMany), .ref ksunk, .ref ktrying, .int (nI ksunkMany), .int ksending, .int kfleets, .ref ktext, .int (nI ktexts), .int kseed, .ref kline, .ref kwritten, .int (nI klineMany), .int khasWritten, .ref knode, .int (nI knodes), .int (nI konesMany), .int (nI kwithin), .int (nI ktop)])), (ktape, .inl (ky 0, 940, .inl ktapeF))]) (va_A [(o, .inr (12, [.int kthrown, .ref ktape, .int (nI ktaped), .int (nI ksize), .int (nI klimit), .int (nI kto), .int (nI kfrom), .int kkind, .int knumber, .int ksign, .int kfault, .int kplace, .long kword, .int ktold, .ref know, .ref kread, .ref kkept, .ref ksnaps, .ref kaside, .ref kname, .ref kreadName, .ref kkeptName, .ref kisKept, .ref konces, .int (nI ksnapMany), .int khasCells, .ref kpoured, .ref kfar, .ref ksides, .int (nI ksideMany), .int kwayDays, .int khasWay, .ref klines, .ref kmet, .int (nI kmetMany), .ref ksunk, .ref ktrying, .int (nI ksunkMany), .int ksending, .int kfleets, .ref ktext, .int (nI ktexts), .int kseed, .ref kline, .ref kwritten, .int (nI klineMany), .int khasWritten, .ref knode, .int (nI knodes), .int (nI konesMany), .int (nI kwithin), .int (nI ktop)])), (ktape, .inl (ky 0, 940, .inl ktapeF))] sz)) (va_A [(o, .inr (12, [.int kthrown, .ref ktape, .int (nI ktaped), .int (nI ksize), .int (nI klimit), .int (nI kto), .int (nI kfrom), .int kkind, .int knumber, .int ksign, .int kfault, .int kplace, .long kword, .int ktold, .ref know, .ref kread, .ref kkept, .ref ksnaps, .ref kaside, .ref kname, .ref kreadName, .ref kkeptName, .ref kisKept, .ref konces, .int (nI ksnapMany), .int khasCells, .ref kpoured, .ref kfar, .ref ksides, .int (nI ksideMany), .int kwayDays, .int khasWay, .ref klines, .ref kmet, .int (nI kmetMany), .ref ksunk, .ref ktrying, .int (nI ksunkMany), .int ksending, .int kfleets, .ref ktext, .int (nI ktexts), .int kseed, .ref kline, .ref kwritten, .int (nI klineMany), .int khasWritten, .ref knode, .int (nI knodes), .int (nI konesMany), .int (nI kwithin), .int (nI ktop)])), (ktape, .inl (ky 0, 940, .inl ktapeF))] sz)) 0 0 (va_A [(o, .inr (12, [.int kthrown, .ref ktape, .int (nI ktaped), .int (nI ksize), .int (nI klimit), .int (nI kto), .int (nI kfrom), .int kkind, .int knumber, .int ksign, .int kfault, .int kplace, .long kword, .int ktold, .ref know, .ref kread, .ref kkept, .ref ksnaps, .ref kaside, .ref kname, .ref kreadName, .ref kkeptName, .ref kisKept, .ref konces, .int (nI ksnapMany), .int khasCells, .ref kpoured, .ref kfar, .ref ksides, .int (nI ksideMany), .int kwayDays, .int khasWay, .ref klines, .ref kmet, .int (nI kmetMany), .ref ksunk, .ref ktrying, .int (nI ksunkMany), .int ksending, .int kfleets, .ref ktext, .int (nI ktexts), .int kseed, .ref kline, .ref kwritten, .int (nI klineMany), .int khasWritten, .ref knode, .int (nI knodes), .int (nI konesMany), .int (nI kwithin), .int (nI ktop)])), (ktape, .inl (ky 0, 940, .inl ktapeF))] sz) := by
  refine Met.ofW (cc := cX12_isWord) (maxL := 2) (ret := (some .boolean)) (by decide) rfl ?_
  intro p e s m args below meth c s₁ B hml hv
  obtain ⟨rfl, hsz, hP, hK, hD0⟩ := hv
  have hx := B.exec
  have hb := B.bytes
  have hr := B.returns
  have hts := atoms_spec (ws := wsX12_isWord) B.pre
  have hown : s.vm.findClass RX12 = some m.cls := findClass_of_methodNamed B.named
  have hlocks := B.notSynchronized
  have hin12 : ∀ w ∈ u_ws RX12 TX12 52, w ∈ wsX12_isWord := by decide +kernel
  subst hsz
  have hD := hD0.self (sz := s.heap.size)
  generalize hAe : va_A [(o, .inr (12, [.int kthrown, .ref ktape, .int (nI ktaped), .int (nI ksize), .int (nI klimit), .int (nI kto), .int (nI kfrom), .int kkind, .int knumber, .int ksign, .int kfault, .int kplace, .long kword, .int ktold, .ref know, .ref kread, .ref kkept, .ref ksnaps, .ref kaside, .ref kname, .ref kreadName, .ref kkeptName, .ref kisKept, .ref konces, .int (nI ksnapMany), .int khasCells, .ref kpoured, .ref kfar, .ref ksides, .int (nI ksideMany), .int kwayDays, .int khasWay, .ref klines, .ref kmet, .int (nI kmetMany), .ref ksunk, .ref ktrying, .int (nI ksunkMany), .int ksending, .int kfleets, .ref ktext, .int (nI ktexts), .int kseed, .ref kline, .ref kwritten, .int (nI klineMany), .int khasWritten, .ref knode, .int (nI knodes), .int (nI konesMany), .int (nI kwithin), .int (nI ktop)])), (ktape, .inl (ky 0, 940, .inl ktapeF))] s.heap.size = A at hD ⊢
  have hA : ∀ q : Nat, s.heap.size ≤ q → A q := fun q h => by rw [← hAe]; exact Or.inr h
  have hS : va_S A s.heap s.heap [] := va_S.rf
  have hl := lv_entry ([.ref o, .int (nI 5)]) (n := 2) (Nat.le_of_ble_eq_true rfl)
  rw [lg_entry_eq]
  generalize (lg_sl ([.ref o, .int (nI 5)]) ++ List.replicate (2 - (lg_sl ([.ref o, .int (nI 5)])).length) Slot.unset).toArray = ls at hl ⊢
  have hl : lv_has ls 2 [(0, .ref o), (1, .int (nI 5))] := hl
  refine q_name (fun Q hQ => ?_)
  generalize ([.ref o, .int (nI 5)] : List Value).toArray = args at hts hQ ⊢
  refine lv_aload_n hx hb dX12_isWord_0 rfl (lv_at hl 0 rfl) ?_
  refine va_get (D := (dC, dI)) (ci := 12) (v := .int kkind) (C := RX12) (T := TX12) (N := 52) hx hb hts hin12 hown hK hP 0 rfl rfl 7 (by decide) (hts (.fieldLink RX12 30 "PorridgeSeaModel" "kind" "I") (List.mem_of_getElem? (i := 1) rfl)) (fun _ h9 => h9) rfl dX12_isWord_1 ?_
  refine lv_iconst (v := nI 2) hx hb dX12_isWord_4 (by decide) ?_
  refine lv_icmp_ne (tgt := 24) hx hb dX12_isWord_5 (by decide) (fun c1 => ?_) (fun c1 => ?_)
  · refine lv_iconst (v := nI 0) hx hb dX12_isWord_24 (by decide) ?_
    rw [hQ]
    exact W.zret (v := nI 0) hx hb hr (by decide) (fun t9 ht9 hW9 => ⟨⟨nI 0, (), rfl, (lf_g_isWord5_1 bt ksize klimit kto kfrom kkind knumber ksign kword ktapeF hp iv_ko_1 iv_ko_2 iv_ko_3 iv_ko_4 hTM hMT c1), by rw [ht9]; exact hP, va_K.moved hW9.alike hK, hD⟩, hS.F ht9⟩) hS.2.2 dX12_isWord_25
  · refine lv_aload_n hx hb dX12_isWord_8 rfl (lv_at hl 0 rfl) ?_
    refine va_get (D := (dC, dI)) (ci := 12) (v := .long kword) (C := RX12) (T := TX12) (N := 52) hx hb hts hin12 hown hK hP 0 rfl rfl 12 (by decide) (hts (.fieldLink RX12 43 "PorridgeSeaModel" "word" "J") (List.mem_of_getElem? (i := 2) rfl)) (fun _ h9 => h9) rfl dX12_isWord_9 ?_
    refine lv_iload_n hx hb dX12_isWord_12 rfl (lv_at hl 1 rfl) ?_
    refine r_call_l (wr := [(o, .inr (12, [.int kthrown, .ref ktape, .int (nI ktaped), .int (nI ksize), .int (nI klimit), .int (nI kto), .int (nI kfrom), .int kkind, .int knumber, .int ksign, .int kfault, .int kplace, .long kword, .int ktold, .ref know, .ref kread, .ref kkept, .ref ksnaps, .ref kaside, .ref kname, .ref kreadName, .ref kkeptName, .ref kisKept, .ref konces, .int (nI ksnapMany), .int khasCells, .ref kpoured, .ref kfar, .ref ksides, .int (nI ksideMany), .int kwayDays, .int khasWay, .ref klines, .ref kmet, .int (nI kmetMany), .ref ksunk, .ref ktrying, .int (nI ksunkMany), .int ksending, .int kfleets, .ref ktext, .int (nI ktexts), .int kseed, .ref kline, .ref kwritten, .int (nI klineMany), .int khasWritten, .ref knode, .int (nI knodes), .int (nI konesMany), .int (nI kwithin), .int (nI ktop)])), (ktape, .inl (ky 0, 940, .inl ktapeF))]) (va_runS (As := [.int (nI 5)]) (rest := [.long kword]) ⟨hx, hb, hml, hown, hts⟩ (c_g_wordOf l dC dI ky s.heap.size (nI 5)) (va_cwS 1 hts gX12_isWord_X12_wordOf rfl rfl rfl (by decide +kernel) ⟨(Nat.le_of_ble_eq_true rfl), (Nat.le_of_ble_eq_true rfl)⟩) (pre_US hK hP hD [] (by decide) rfl) rfl rfl hl.1 rfl (lv_room (Nat.le_of_ble_eq_true rfl)) dX12_isWord_13 ⟨(Nat.le_of_ble_eq_true rfl), (Nat.le_of_ble_eq_true rfl)⟩) hP hD hS hA [] [0, 1] rfl rfl (by decide) (by decide) (fun r4 u2 H locs p3 hP hD hS => ?_)
    try dsimp only at p3
    have p5 := p3
    refine W.widen (k := 0) (n := 0) (Nat.le_of_ble_eq_true rfl) (Nat.le_of_ble_eq_true rfl) ?_
    have hP : va_P (dC, dI) vwCl [(o, .inr (12, [.int kthrown, .ref ktape, .int (nI ktaped), .int (nI ksize), .int (nI klimit), .int (nI kto), .int (nI kfrom), .int kkind, .int knumber, .int ksign, .int kfault, .int kplace, .long kword, .int ktold, .ref know, .ref kread, .ref kkept, .ref ksnaps, .ref kaside, .ref kname, .ref kreadName, .ref kkeptName, .ref kisKept, .ref konces, .int (nI ksnapMany), .int khasCells, .ref kpoured, .ref kfar, .ref ksides, .int (nI ksideMany), .int kwayDays, .int khasWay, .ref klines, .ref kmet, .int (nI kmetMany), .ref ksunk, .ref ktrying, .int (nI ksunkMany), .int ksending, .int kfleets, .ref ktext, .int (nI ktexts), .int kseed, .ref kline, .ref kwritten, .int (nI klineMany), .int khasWritten, .ref knode, .int (nI knodes), .int (nI konesMany), .int (nI kwithin), .int (nI ktop)])), (ktape, .inl (ky 0, 940, .inl ktapeF))] H := hP
    have hD : va_D A [(o, .inr (12, [.int kthrown, .ref ktape, .int (nI ktaped), .int (nI ksize), .int (nI klimit), .int (nI kto), .int (nI kfrom), .int kkind, .int knumber, .int ksign, .int kfault, .int kplace, .long kword, .int ktold, .ref know, .ref kread, .ref kkept, .ref ksnaps, .ref kaside, .ref kname, .ref kreadName, .ref kkeptName, .ref kisKept, .ref konces, .int (nI ksnapMany), .int khasCells, .ref kpoured, .ref kfar, .ref ksides, .int (nI ksideMany), .int kwayDays, .int khasWay, .ref klines, .ref kmet, .int (nI kmetMany), .ref ksunk, .ref ktrying, .int (nI ksunkMany), .int ksending, .int kfleets, .ref ktext, .int (nI ktexts), .int kseed, .ref kline, .ref kwritten, .int (nI klineMany), .int khasWritten, .ref knode, .int (nI knodes), .int (nI konesMany), .int (nI kwithin), .int (nI ktop)])), (ktape, .inl (ky 0, 940, .inl ktapeF))] := hD
    refine W.lcmp hx hb dX12_isWord_16 ?_
    refine lv_topi (fun y6 e7 => ?_)
    refine lv_if_ne (tgt := 24) hx hb dX12_isWord_17 (by decide) (fun c8 => ?_) (fun c8 => ?_)
    · refine lv_iconst (v := nI 0) hx hb dX12_isWord_24 (by decide) ?_
      rw [hQ]
      exact W.zret (v := nI 0) hx hb hr (by decide) (fun t9 ht9 hW9 => ⟨⟨nI 0, (), rfl, (lf_g_isWord5_2 bt ksize klimit kto kfrom kkind knumber ksign kword ktapeF hp r4 y6 iv_ko_1 iv_ko_2 iv_ko_3 iv_ko_4 hTM hMT c1 p5 e7 c8), by rw [ht9]; exact hP, va_K.moved hW9.alike hK, hD⟩, hS.F ht9⟩) hS.2.2 dX12_isWord_25
    · refine lv_iconst (v := nI 1) hx hb dX12_isWord_20 (by decide) ?_
      refine lv_goto (tgt := 25) hx hb dX12_isWord_21 (by decide) ?_
      rw [hQ]
      exact W.zret (v := nI 1) hx hb hr (by decide) (fun t9 ht9 hW9 => ⟨⟨nI 1, (), rfl, (lf_g_isWord5_3 bt ksize klimit kto kfrom kkind knumber ksign kword ktapeF hp r4 y6 iv_ko_1 iv_ko_2 iv_ko_3 iv_ko_4 hTM hMT c1 p5 e7 c8), by rw [ht9]; exact hP, va_K.moved hW9.alike hK, hD⟩, hS.F ht9⟩) hS.2.2 dX12_isWord_25
set_option maxRecDepth 20000 in
theorem lf_g_isWord6_1 (bt : Nat → Nat) (ksize : Nat) (klimit : Nat) (kto : Nat) (kfrom : Nat) (kkind : Int32) (knumber : Int32) (ksign : Int32) (kword : Int64) (ktapeF : Nat → Int32) (hp : Nat) (iv_ko_1 : ksize ≤ 940) (iv_ko_2 : klimit ≤ 900) (iv_ko_3 : kto ≤ ksize) (iv_ko_4 : kfrom ≤ 940) (hTM : TM bt ktapeF) (hMT : MT bt ksize klimit hp kkind ksign kfrom kto knumber kword) (c1 : kkind ≠ nI 2) : ((nI 0) = nI 1 ∧ (tW bt ksize klimit hp = 6)) ∨ ((nI 0) = nI 0 ∧ (¬ tW bt ksize klimit hp = 6)) := by
  first
    | (refine Or.inl ⟨rfl, isW_t hMT (by decide) (by assumption) (by assumption) ?_⟩; subst_vars; exact (lg0 _ _).mp (by first | assumption | exact Eq.symm (by assumption)))
    | (refine Or.inr ⟨rfl, isW_f hMT (by decide) (by assumption) (fun z => ?_)⟩; subst_vars; exact absurd ((lg0 _ _).mpr rfl) (by assumption))
    | exact Or.inr ⟨rfl, isW_n hMT (by decide) (by assumption)⟩
set_option maxRecDepth 20000 in
theorem lf_g_isWord6_2 (bt : Nat → Nat) (ksize : Nat) (klimit : Nat) (kto : Nat) (kfrom : Nat) (kkind : Int32) (knumber : Int32) (ksign : Int32) (kword : Int64) (ktapeF : Nat → Int32) (hp : Nat) (r4 : Int64) (y6 : Int32) (iv_ko_1 : ksize ≤ 940) (iv_ko_2 : klimit ≤ 900) (iv_ko_3 : kto ≤ ksize) (iv_ko_4 : kfrom ≤ 940) (hTM : TM bt ktapeF) (hMT : MT bt ksize klimit hp kkind ksign kfrom kto knumber kword) (c1 : kkind = nI 2) (p5 : WOf (nI 6) r4) (e7 : y6 = lg_cmp kword r4) (c8 : y6 ≠ 0) : ((nI 0) = nI 1 ∧ (tW bt ksize klimit hp = 6)) ∨ ((nI 0) = nI 0 ∧ (¬ tW bt ksize klimit hp = 6)) := by
  first
    | (refine Or.inl ⟨rfl, isW_t hMT (by decide) (by assumption) (by assumption) ?_⟩; subst_vars; exact (lg0 _ _).mp (by first | assumption | exact Eq.symm (by assumption)))
    | (refine Or.inr ⟨rfl, isW_f hMT (by decide) (by assumption) (fun z => ?_)⟩; subst_vars; exact absurd ((lg0 _ _).mpr rfl) (by assumption))
    | exact Or.inr ⟨rfl, isW_n hMT (by decide) (by assumption)⟩
set_option maxRecDepth 20000 in
theorem lf_g_isWord6_3 (bt : Nat → Nat) (ksize : Nat) (klimit : Nat) (kto : Nat) (kfrom : Nat) (kkind : Int32) (knumber : Int32) (ksign : Int32) (kword : Int64) (ktapeF : Nat → Int32) (hp : Nat) (r4 : Int64) (y6 : Int32) (iv_ko_1 : ksize ≤ 940) (iv_ko_2 : klimit ≤ 900) (iv_ko_3 : kto ≤ ksize) (iv_ko_4 : kfrom ≤ 940) (hTM : TM bt ktapeF) (hMT : MT bt ksize klimit hp kkind ksign kfrom kto knumber kword) (c1 : kkind = nI 2) (p5 : WOf (nI 6) r4) (e7 : y6 = lg_cmp kword r4) (c8 : y6 = 0) : ((nI 1) = nI 1 ∧ (tW bt ksize klimit hp = 6)) ∨ ((nI 1) = nI 0 ∧ (¬ tW bt ksize klimit hp = 6)) := by
  first
    | (refine Or.inl ⟨rfl, isW_t hMT (by decide) (by assumption) (by assumption) ?_⟩; subst_vars; exact (lg0 _ _).mp (by first | assumption | exact Eq.symm (by assumption)))
    | (refine Or.inr ⟨rfl, isW_f hMT (by decide) (by assumption) (fun z => ?_)⟩; subst_vars; exact absurd ((lg0 _ _).mpr rfl) (by assumption))
    | exact Or.inr ⟨rfl, isW_n hMT (by decide) (by assumption)⟩
set_option maxHeartbeats 4000000 in
set_option maxRecDepth 100000 in
theorem c_g_isWord6 (l : Launch) (dC : Nat → ClassId) (dI : Nat → Nat → Nat) (ky : Nat → ClassId) (sz : Nat) (bt : Nat → Nat) (o : Nat) (kthrown : Int32) (ktape : Nat) (ktaped : Nat) (ksize : Nat) (klimit : Nat) (kto : Nat) (kfrom : Nat) (kkind : Int32) (knumber : Int32) (ksign : Int32) (kfault : Int32) (kplace : Int32) (kword : Int64) (ktold : Int32) (know : Nat) (kread : Nat) (kkept : Nat) (ksnaps : Nat) (kaside : Nat) (kname : Nat) (kreadName : Nat) (kkeptName : Nat) (kisKept : Nat) (konces : Nat) (ksnapMany : Nat) (khasCells : Int32) (kpoured : Nat) (kfar : Nat) (ksides : Nat) (ksideMany : Nat) (kwayDays : Int32) (khasWay : Int32) (klines : Nat) (kmet : Nat) (kmetMany : Nat) (ksunk : Nat) (ktrying : Nat) (ksunkMany : Nat) (ksending : Int32) (kfleets : Int32) (ktext : Nat) (ktexts : Nat) (kseed : Int32) (kline : Nat) (kwritten : Nat) (klineMany : Nat) (khasWritten : Int32) (knode : Nat) (knodes : Nat) (konesMany : Nat) (kwithin : Nat) (ktop : Nat) (ktapeF : Nat → Int32) (hp : Nat) (iv_ko_0 : ktaped ≤ 940) (iv_ko_1 : ksize ≤ 940) (iv_ko_2 : klimit ≤ 900) (iv_ko_3 : kto ≤ ksize) (iv_ko_4 : kfrom ≤ 940) (iv_ko_5 : ksnapMany ≤ 8) (iv_ko_6 : ksideMany ≤ 36) (iv_ko_7 : kmetMany ≤ 3) (iv_ko_8 : ksunkMany ≤ 36) (iv_ko_9 : ktexts ≤ 64) (iv_ko_10 : klineMany ≤ 40) (iv_ko_11 : knodes ≤ 60) (iv_ko_12 : konesMany ≤ 20) (iv_ko_13 : kwithin ≤ 8) (iv_ko_14 : ktop ≤ 59) (hTM : TM bt ktapeF) (hMT : MT bt ksize klimit hp kkind ksign kfrom kto knumber kword) : Met l yX12_isWord wsX12_isWord ({ frames := 2, cells := 0, slots := 0, locals := 47 }) (PcU dC dI ky [.ref o, .int (nI 6)] [(o, .inr (12, [.int kthrown, .ref ktape, .int (nI ktaped), .int (nI ksize), .int (nI klimit), .int (nI kto), .int (nI kfrom), .int kkind, .int knumber, .int ksign, .int kfault, .int kplace, .long kword, .int ktold, .ref know, .ref kread, .ref kkept, .ref ksnaps, .ref kaside, .ref kname, .ref kreadName, .ref kkeptName, .ref kisKept, .ref konces, .int (nI ksnapMany), .int khasCells, .ref kpoured, .ref kfar, .ref ksides, .int (nI ksideMany), .int kwayDays, .int khasWay, .ref klines, .ref kmet, .int (nI kmetMany), .ref ksunk, .ref ktrying, .int (nI ksunkMany), .int ksending, .int kfleets, .ref ktext, .int (nI ktexts), .int kseed, .ref kline, .ref kwritten, .int (nI klineMany), .int khasWritten, .ref knode, .int (nI knodes), .int (nI konesMany), .int (nI kwithin), .int (nI ktop)])), (ktape, .inl (ky 0, 940, .inl ktapeF))] sz) (va_Qi (fun (r : Int32) (_ : Unit) => (r = nI 1 ∧ (tW bt ksize klimit hp = 6)) ∨ (r = nI 0 ∧ (¬ tW bt ksize klimit hp = 6))) (BU dC dI ky (fun (_ : Unit) => [(o, .inr (12, [.int kthrown, .ref ktape, .int (nI ktaped), .int (nI ksize), .int (nI klimit), .int (nI kto), .int (nI kfrom), .int kkind, .int knumber, .int ksign, .int kfault, .int kplace, .long kword, .int ktold, .ref know, .ref kread, .ref kkept, .ref ksnaps, .ref kaside, .ref kname, .ref kreadName, .ref kkeptName, .ref kisKept, .ref konces, .int (nI ksnapMany), .int khasCells, .ref kpoured, .ref kfar, .ref ksides, .int (nI ksideMany), .int kwayDays, .int khasWay, .ref klines, .ref kmet, .int (nI kmetMany), .ref ksunk, .ref ktrying, .int (nI ksunkMany), .int ksending, .int kfleets, .ref ktext, .int (nI ktexts), .int kseed, .ref kline, .ref kwritten, .int (nI klineMany), .int khasWritten, .ref knode, .int (nI knodes), .int (nI konesMany), .int (nI kwithin), .int (nI ktop)])), (ktape, .inl (ky 0, 940, .inl ktapeF))]) (va_A [(o, .inr (12, [.int kthrown, .ref ktape, .int (nI ktaped), .int (nI ksize), .int (nI klimit), .int (nI kto), .int (nI kfrom), .int kkind, .int knumber, .int ksign, .int kfault, .int kplace, .long kword, .int ktold, .ref know, .ref kread, .ref kkept, .ref ksnaps, .ref kaside, .ref kname, .ref kreadName, .ref kkeptName, .ref kisKept, .ref konces, .int (nI ksnapMany), .int khasCells, .ref kpoured, .ref kfar, .ref ksides, .int (nI ksideMany), .int kwayDays, .int khasWay, .ref klines, .ref kmet, .int (nI kmetMany), .ref ksunk, .ref ktrying, .int (nI ksunkMany), .int ksending, .int kfleets, .ref ktext, .int (nI ktexts), .int kseed, .ref kline, .ref kwritten, .int (nI klineMany), .int khasWritten, .ref knode, .int (nI knodes), .int (nI konesMany), .int (nI kwithin), .int (nI ktop)])), (ktape, .inl (ky 0, 940, .inl ktapeF))] sz)) (va_A [(o, .inr (12, [.int kthrown, .ref ktape, .int (nI ktaped), .int (nI ksize), .int (nI klimit), .int (nI kto), .int (nI kfrom), .int kkind, .int knumber, .int ksign, .int kfault, .int kplace, .long kword, .int ktold, .ref know, .ref kread, .ref kkept, .ref ksnaps, .ref kaside, .ref kname, .ref kreadName, .ref kkeptName, .ref kisKept, .ref konces, .int (nI ksnapMany), .int khasCells, .ref kpoured, .ref kfar, .ref ksides, .int (nI ksideMany), .int kwayDays, .int khasWay, .ref klines, .ref kmet, .int (nI kmetMany), .ref ksunk, .ref ktrying, .int (nI ksunkMany), .int ksending, .int kfleets, .ref ktext, .int (nI ktexts), .int kseed, .ref kline, .ref kwritten, .int (nI klineMany), .int khasWritten, .ref knode, .int (nI knodes), .int (nI konesMany), .int (nI kwithin), .int (nI ktop)])), (ktape, .inl (ky 0, 940, .inl ktapeF))] sz)) 0 0 (va_A [(o, .inr (12, [.int kthrown, .ref ktape, .int (nI ktaped), .int (nI ksize), .int (nI klimit), .int (nI kto), .int (nI kfrom), .int kkind, .int knumber, .int ksign, .int kfault, .int kplace, .long kword, .int ktold, .ref know, .ref kread, .ref kkept, .ref ksnaps, .ref kaside, .ref kname, .ref kreadName, .ref kkeptName, .ref kisKept, .ref konces, .int (nI ksnapMany), .int khasCells, .ref kpoured, .ref kfar, .ref ksides, .int (nI ksideMany), .int kwayDays, .int khasWay, .ref klines, .ref kmet, .int (nI kmetMany), .ref ksunk, .ref ktrying, .int (nI ksunkMany), .int ksending, .int kfleets, .ref ktext, .int (nI ktexts), .int kseed, .ref kline, .ref kwritten, .int (nI klineMany), .int khasWritten, .ref knode, .int (nI knodes), .int (nI konesMany), .int (nI kwithin), .int (nI ktop)])), (ktape, .inl (ky 0, 940, .inl ktapeF))] sz) := by
  refine Met.ofW (cc := cX12_isWord) (maxL := 2) (ret := (some .boolean)) (by decide) rfl ?_
  intro p e s m args below meth c s₁ B hml hv
  obtain ⟨rfl, hsz, hP, hK, hD0⟩ := hv
  have hx := B.exec
  have hb := B.bytes
  have hr := B.returns
  have hts := atoms_spec (ws := wsX12_isWord) B.pre
  have hown : s.vm.findClass RX12 = some m.cls := findClass_of_methodNamed B.named
  have hlocks := B.notSynchronized
  have hin12 : ∀ w ∈ u_ws RX12 TX12 52, w ∈ wsX12_isWord := by decide +kernel
  subst hsz
  have hD := hD0.self (sz := s.heap.size)
  generalize hAe : va_A [(o, .inr (12, [.int kthrown, .ref ktape, .int (nI ktaped), .int (nI ksize), .int (nI klimit), .int (nI kto), .int (nI kfrom), .int kkind, .int knumber, .int ksign, .int kfault, .int kplace, .long kword, .int ktold, .ref know, .ref kread, .ref kkept, .ref ksnaps, .ref kaside, .ref kname, .ref kreadName, .ref kkeptName, .ref kisKept, .ref konces, .int (nI ksnapMany), .int khasCells, .ref kpoured, .ref kfar, .ref ksides, .int (nI ksideMany), .int kwayDays, .int khasWay, .ref klines, .ref kmet, .int (nI kmetMany), .ref ksunk, .ref ktrying, .int (nI ksunkMany), .int ksending, .int kfleets, .ref ktext, .int (nI ktexts), .int kseed, .ref kline, .ref kwritten, .int (nI klineMany), .int khasWritten, .ref knode, .int (nI knodes), .int (nI konesMany), .int (nI kwithin), .int (nI ktop)])), (ktape, .inl (ky 0, 940, .inl ktapeF))] s.heap.size = A at hD ⊢
  have hA : ∀ q : Nat, s.heap.size ≤ q → A q := fun q h => by rw [← hAe]; exact Or.inr h
  have hS : va_S A s.heap s.heap [] := va_S.rf
  have hl := lv_entry ([.ref o, .int (nI 6)]) (n := 2) (Nat.le_of_ble_eq_true rfl)
  rw [lg_entry_eq]
  generalize (lg_sl ([.ref o, .int (nI 6)]) ++ List.replicate (2 - (lg_sl ([.ref o, .int (nI 6)])).length) Slot.unset).toArray = ls at hl ⊢
  have hl : lv_has ls 2 [(0, .ref o), (1, .int (nI 6))] := hl
  refine q_name (fun Q hQ => ?_)
  generalize ([.ref o, .int (nI 6)] : List Value).toArray = args at hts hQ ⊢
  refine lv_aload_n hx hb dX12_isWord_0 rfl (lv_at hl 0 rfl) ?_
  refine va_get (D := (dC, dI)) (ci := 12) (v := .int kkind) (C := RX12) (T := TX12) (N := 52) hx hb hts hin12 hown hK hP 0 rfl rfl 7 (by decide) (hts (.fieldLink RX12 30 "PorridgeSeaModel" "kind" "I") (List.mem_of_getElem? (i := 1) rfl)) (fun _ h9 => h9) rfl dX12_isWord_1 ?_
  refine lv_iconst (v := nI 2) hx hb dX12_isWord_4 (by decide) ?_
  refine lv_icmp_ne (tgt := 24) hx hb dX12_isWord_5 (by decide) (fun c1 => ?_) (fun c1 => ?_)
  · refine lv_iconst (v := nI 0) hx hb dX12_isWord_24 (by decide) ?_
    rw [hQ]
    exact W.zret (v := nI 0) hx hb hr (by decide) (fun t9 ht9 hW9 => ⟨⟨nI 0, (), rfl, (lf_g_isWord6_1 bt ksize klimit kto kfrom kkind knumber ksign kword ktapeF hp iv_ko_1 iv_ko_2 iv_ko_3 iv_ko_4 hTM hMT c1), by rw [ht9]; exact hP, va_K.moved hW9.alike hK, hD⟩, hS.F ht9⟩) hS.2.2 dX12_isWord_25
  · refine lv_aload_n hx hb dX12_isWord_8 rfl (lv_at hl 0 rfl) ?_
    refine va_get (D := (dC, dI)) (ci := 12) (v := .long kword) (C := RX12) (T := TX12) (N := 52) hx hb hts hin12 hown hK hP 0 rfl rfl 12 (by decide) (hts (.fieldLink RX12 43 "PorridgeSeaModel" "word" "J") (List.mem_of_getElem? (i := 2) rfl)) (fun _ h9 => h9) rfl dX12_isWord_9 ?_
    refine lv_iload_n hx hb dX12_isWord_12 rfl (lv_at hl 1 rfl) ?_
    refine r_call_l (wr := [(o, .inr (12, [.int kthrown, .ref ktape, .int (nI ktaped), .int (nI ksize), .int (nI klimit), .int (nI kto), .int (nI kfrom), .int kkind, .int knumber, .int ksign, .int kfault, .int kplace, .long kword, .int ktold, .ref know, .ref kread, .ref kkept, .ref ksnaps, .ref kaside, .ref kname, .ref kreadName, .ref kkeptName, .ref kisKept, .ref konces, .int (nI ksnapMany), .int khasCells, .ref kpoured, .ref kfar, .ref ksides, .int (nI ksideMany), .int kwayDays, .int khasWay, .ref klines, .ref kmet, .int (nI kmetMany), .ref ksunk, .ref ktrying, .int (nI ksunkMany), .int ksending, .int kfleets, .ref ktext, .int (nI ktexts), .int kseed, .ref kline, .ref kwritten, .int (nI klineMany), .int khasWritten, .ref knode, .int (nI knodes), .int (nI konesMany), .int (nI kwithin), .int (nI ktop)])), (ktape, .inl (ky 0, 940, .inl ktapeF))]) (va_runS (As := [.int (nI 6)]) (rest := [.long kword]) ⟨hx, hb, hml, hown, hts⟩ (c_g_wordOf l dC dI ky s.heap.size (nI 6)) (va_cwS 1 hts gX12_isWord_X12_wordOf rfl rfl rfl (by decide +kernel) ⟨(Nat.le_of_ble_eq_true rfl), (Nat.le_of_ble_eq_true rfl)⟩) (pre_US hK hP hD [] (by decide) rfl) rfl rfl hl.1 rfl (lv_room (Nat.le_of_ble_eq_true rfl)) dX12_isWord_13 ⟨(Nat.le_of_ble_eq_true rfl), (Nat.le_of_ble_eq_true rfl)⟩) hP hD hS hA [] [0, 1] rfl rfl (by decide) (by decide) (fun r4 u2 H locs p3 hP hD hS => ?_)
    try dsimp only at p3
    have p5 := p3
    refine W.widen (k := 0) (n := 0) (Nat.le_of_ble_eq_true rfl) (Nat.le_of_ble_eq_true rfl) ?_
    have hP : va_P (dC, dI) vwCl [(o, .inr (12, [.int kthrown, .ref ktape, .int (nI ktaped), .int (nI ksize), .int (nI klimit), .int (nI kto), .int (nI kfrom), .int kkind, .int knumber, .int ksign, .int kfault, .int kplace, .long kword, .int ktold, .ref know, .ref kread, .ref kkept, .ref ksnaps, .ref kaside, .ref kname, .ref kreadName, .ref kkeptName, .ref kisKept, .ref konces, .int (nI ksnapMany), .int khasCells, .ref kpoured, .ref kfar, .ref ksides, .int (nI ksideMany), .int kwayDays, .int khasWay, .ref klines, .ref kmet, .int (nI kmetMany), .ref ksunk, .ref ktrying, .int (nI ksunkMany), .int ksending, .int kfleets, .ref ktext, .int (nI ktexts), .int kseed, .ref kline, .ref kwritten, .int (nI klineMany), .int khasWritten, .ref knode, .int (nI knodes), .int (nI konesMany), .int (nI kwithin), .int (nI ktop)])), (ktape, .inl (ky 0, 940, .inl ktapeF))] H := hP
    have hD : va_D A [(o, .inr (12, [.int kthrown, .ref ktape, .int (nI ktaped), .int (nI ksize), .int (nI klimit), .int (nI kto), .int (nI kfrom), .int kkind, .int knumber, .int ksign, .int kfault, .int kplace, .long kword, .int ktold, .ref know, .ref kread, .ref kkept, .ref ksnaps, .ref kaside, .ref kname, .ref kreadName, .ref kkeptName, .ref kisKept, .ref konces, .int (nI ksnapMany), .int khasCells, .ref kpoured, .ref kfar, .ref ksides, .int (nI ksideMany), .int kwayDays, .int khasWay, .ref klines, .ref kmet, .int (nI kmetMany), .ref ksunk, .ref ktrying, .int (nI ksunkMany), .int ksending, .int kfleets, .ref ktext, .int (nI ktexts), .int kseed, .ref kline, .ref kwritten, .int (nI klineMany), .int khasWritten, .ref knode, .int (nI knodes), .int (nI konesMany), .int (nI kwithin), .int (nI ktop)])), (ktape, .inl (ky 0, 940, .inl ktapeF))] := hD
    refine W.lcmp hx hb dX12_isWord_16 ?_
    refine lv_topi (fun y6 e7 => ?_)
    refine lv_if_ne (tgt := 24) hx hb dX12_isWord_17 (by decide) (fun c8 => ?_) (fun c8 => ?_)
    · refine lv_iconst (v := nI 0) hx hb dX12_isWord_24 (by decide) ?_
      rw [hQ]
      exact W.zret (v := nI 0) hx hb hr (by decide) (fun t9 ht9 hW9 => ⟨⟨nI 0, (), rfl, (lf_g_isWord6_2 bt ksize klimit kto kfrom kkind knumber ksign kword ktapeF hp r4 y6 iv_ko_1 iv_ko_2 iv_ko_3 iv_ko_4 hTM hMT c1 p5 e7 c8), by rw [ht9]; exact hP, va_K.moved hW9.alike hK, hD⟩, hS.F ht9⟩) hS.2.2 dX12_isWord_25
    · refine lv_iconst (v := nI 1) hx hb dX12_isWord_20 (by decide) ?_
      refine lv_goto (tgt := 25) hx hb dX12_isWord_21 (by decide) ?_
      rw [hQ]
      exact W.zret (v := nI 1) hx hb hr (by decide) (fun t9 ht9 hW9 => ⟨⟨nI 1, (), rfl, (lf_g_isWord6_3 bt ksize klimit kto kfrom kkind knumber ksign kword ktapeF hp r4 y6 iv_ko_1 iv_ko_2 iv_ko_3 iv_ko_4 hTM hMT c1 p5 e7 c8), by rw [ht9]; exact hP, va_K.moved hW9.alike hK, hD⟩, hS.F ht9⟩) hS.2.2 dX12_isWord_25
set_option maxRecDepth 20000 in
theorem lf_g_isSign59_1 (bt : Nat → Nat) (ksize : Nat) (klimit : Nat) (kto : Nat) (kfrom : Nat) (kkind : Int32) (knumber : Int32) (ksign : Int32) (kword : Int64) (ktapeF : Nat → Int32) (hp : Nat) (iv_ko_1 : ksize ≤ 940) (iv_ko_2 : klimit ≤ 900) (iv_ko_3 : kto ≤ ksize) (iv_ko_4 : kfrom ≤ 940) (hTM : TM bt ktapeF) (hMT : MT bt ksize klimit hp kkind ksign kfrom kto knumber kword) (c1 : kkind ≠ nI 4) : ((nI 0) = nI 1 ∧ (tK bt ksize klimit hp = 59)) ∨ ((nI 0) = nI 0 ∧ (¬ tK bt ksize klimit hp = 59)) := by
  first
    | exact Or.inl ⟨rfl, (MT_s hMT (by decide) (by decide)).mp ⟨by assumption, by assumption⟩⟩
    | exact Or.inr ⟨rfl, fun h => absurd ((MT_s hMT (by decide) (by decide)).mpr h).1 (by assumption)⟩
    | exact Or.inr ⟨rfl, fun h => absurd ((MT_s hMT (by decide) (by decide)).mpr h).2 (by assumption)⟩
set_option maxRecDepth 20000 in
theorem lf_g_isSign59_2 (bt : Nat → Nat) (ksize : Nat) (klimit : Nat) (kto : Nat) (kfrom : Nat) (kkind : Int32) (knumber : Int32) (ksign : Int32) (kword : Int64) (ktapeF : Nat → Int32) (hp : Nat) (iv_ko_1 : ksize ≤ 940) (iv_ko_2 : klimit ≤ 900) (iv_ko_3 : kto ≤ ksize) (iv_ko_4 : kfrom ≤ 940) (hTM : TM bt ktapeF) (hMT : MT bt ksize klimit hp kkind ksign kfrom kto knumber kword) (c1 : kkind = nI 4) (c2 : ksign ≠ nI 59) : ((nI 0) = nI 1 ∧ (tK bt ksize klimit hp = 59)) ∨ ((nI 0) = nI 0 ∧ (¬ tK bt ksize klimit hp = 59)) := by
  first
    | exact Or.inl ⟨rfl, (MT_s hMT (by decide) (by decide)).mp ⟨by assumption, by assumption⟩⟩
    | exact Or.inr ⟨rfl, fun h => absurd ((MT_s hMT (by decide) (by decide)).mpr h).1 (by assumption)⟩
    | exact Or.inr ⟨rfl, fun h => absurd ((MT_s hMT (by decide) (by decide)).mpr h).2 (by assumption)⟩
set_option maxRecDepth 20000 in
theorem lf_g_isSign59_3 (bt : Nat → Nat) (ksize : Nat) (klimit : Nat) (kto : Nat) (kfrom : Nat) (kkind : Int32) (knumber : Int32) (ksign : Int32) (kword : Int64) (ktapeF : Nat → Int32) (hp : Nat) (iv_ko_1 : ksize ≤ 940) (iv_ko_2 : klimit ≤ 900) (iv_ko_3 : kto ≤ ksize) (iv_ko_4 : kfrom ≤ 940) (hTM : TM bt ktapeF) (hMT : MT bt ksize klimit hp kkind ksign kfrom kto knumber kword) (c1 : kkind = nI 4) (c2 : ksign = nI 59) : ((nI 1) = nI 1 ∧ (tK bt ksize klimit hp = 59)) ∨ ((nI 1) = nI 0 ∧ (¬ tK bt ksize klimit hp = 59)) := by
  first
    | exact Or.inl ⟨rfl, (MT_s hMT (by decide) (by decide)).mp ⟨by assumption, by assumption⟩⟩
    | exact Or.inr ⟨rfl, fun h => absurd ((MT_s hMT (by decide) (by decide)).mpr h).1 (by assumption)⟩
    | exact Or.inr ⟨rfl, fun h => absurd ((MT_s hMT (by decide) (by decide)).mpr h).2 (by assumption)⟩
set_option maxHeartbeats 4000000 in
set_option maxRecDepth 100000 in
theorem c_g_isSign59 (l : Launch) (dC : Nat → ClassId) (dI : Nat → Nat → Nat) (ky : Nat → ClassId) (bt : Nat → Nat) (o : Nat) (kthrown : Int32) (ktape : Nat) (ktaped : Nat) (ksize : Nat) (klimit : Nat) (kto : Nat) (kfrom : Nat) (kkind : Int32) (knumber : Int32) (ksign : Int32) (kfault : Int32) (kplace : Int32) (kword : Int64) (ktold : Int32) (know : Nat) (kread : Nat) (kkept : Nat) (ksnaps : Nat) (kaside : Nat) (kname : Nat) (kreadName : Nat) (kkeptName : Nat) (kisKept : Nat) (konces : Nat) (ksnapMany : Nat) (khasCells : Int32) (kpoured : Nat) (kfar : Nat) (ksides : Nat) (ksideMany : Nat) (kwayDays : Int32) (khasWay : Int32) (klines : Nat) (kmet : Nat) (kmetMany : Nat) (ksunk : Nat) (ktrying : Nat) (ksunkMany : Nat) (ksending : Int32) (kfleets : Int32) (ktext : Nat) (ktexts : Nat) (kseed : Int32) (kline : Nat) (kwritten : Nat) (klineMany : Nat) (khasWritten : Int32) (knode : Nat) (knodes : Nat) (konesMany : Nat) (kwithin : Nat) (ktop : Nat) (ktapeF : Nat → Int32) (hp : Nat) (iv_ko_0 : ktaped ≤ 940) (iv_ko_1 : ksize ≤ 940) (iv_ko_2 : klimit ≤ 900) (iv_ko_3 : kto ≤ ksize) (iv_ko_4 : kfrom ≤ 940) (iv_ko_5 : ksnapMany ≤ 8) (iv_ko_6 : ksideMany ≤ 36) (iv_ko_7 : kmetMany ≤ 3) (iv_ko_8 : ksunkMany ≤ 36) (iv_ko_9 : ktexts ≤ 64) (iv_ko_10 : klineMany ≤ 40) (iv_ko_11 : knodes ≤ 60) (iv_ko_12 : konesMany ≤ 20) (iv_ko_13 : kwithin ≤ 8) (iv_ko_14 : ktop ≤ 59) (hTM : TM bt ktapeF) (hMT : MT bt ksize klimit hp kkind ksign kfrom kto knumber kword) : Met l yX12_isSign wsX12_isSign ({ frames := 0, cells := 0, slots := 0, locals := 0 }) (PcP dC dI ky [.ref o, .int (nI 59)] [(o, .inr (12, [.int kthrown, .ref ktape, .int (nI ktaped), .int (nI ksize), .int (nI klimit), .int (nI kto), .int (nI kfrom), .int kkind, .int knumber, .int ksign, .int kfault, .int kplace, .long kword, .int ktold, .ref know, .ref kread, .ref kkept, .ref ksnaps, .ref kaside, .ref kname, .ref kreadName, .ref kkeptName, .ref kisKept, .ref konces, .int (nI ksnapMany), .int khasCells, .ref kpoured, .ref kfar, .ref ksides, .int (nI ksideMany), .int kwayDays, .int khasWay, .ref klines, .ref kmet, .int (nI kmetMany), .ref ksunk, .ref ktrying, .int (nI ksunkMany), .int ksending, .int kfleets, .ref ktext, .int (nI ktexts), .int kseed, .ref kline, .ref kwritten, .int (nI klineMany), .int khasWritten, .ref knode, .int (nI knodes), .int (nI konesMany), .int (nI kwithin), .int (nI ktop)])), (ktape, .inl (ky 0, 940, .inl ktapeF))]) (vp_Si (fun r : Int32 => (r = nI 1 ∧ (tK bt ksize klimit hp = 59)) ∨ (r = nI 0 ∧ (¬ tK bt ksize klimit hp = 59)))) 0 0 (fun _ => False) := by
  refine Met.ofW (cc := cX12_isSign) (maxL := 2) (ret := (some .boolean)) (by decide) rfl ?_
  intro p e s m args below meth c s₁ B hml hv
  obtain ⟨rfl, hP, hK⟩ := hv
  have hx := B.exec
  have hb := B.bytes
  have hr := B.returns
  have hts := atoms_spec (ws := wsX12_isSign) B.pre
  have hown : s.vm.findClass RX12 = some m.cls := findClass_of_methodNamed B.named
  have hlocks := B.notSynchronized
  have hin12 : ∀ w ∈ u_ws RX12 TX12 52, w ∈ wsX12_isSign := by decide +kernel
  have hl := lv_entry ([.ref o, .int (nI 59)]) (n := 2) (Nat.le_of_ble_eq_true rfl)
  rw [lg_entry_eq]
  generalize (lg_sl ([.ref o, .int (nI 59)]) ++ List.replicate (2 - (lg_sl ([.ref o, .int (nI 59)])).length) Slot.unset).toArray = ls at hl ⊢
  have hl : lv_has ls 2 [(0, .ref o), (1, .int (nI 59))] := hl
  refine q_name (fun Q hQ => ?_)
  generalize ([.ref o, .int (nI 59)] : List Value).toArray = args at hts hQ ⊢
  refine lv_aload_n hx hb dX12_isSign_0 rfl (lv_at hl 0 rfl) ?_
  refine va_get (D := (dC, dI)) (ci := 12) (v := .int kkind) (C := RX12) (T := TX12) (N := 52) hx hb hts hin12 hown hK hP 0 rfl rfl 7 (by decide) (hts (.fieldLink RX12 30 "PorridgeSeaModel" "kind" "I") (List.mem_of_getElem? (i := 1) rfl)) (fun _ h9 => h9) rfl dX12_isSign_1 ?_
  refine lv_iconst (v := nI 4) hx hb dX12_isSign_4 (by decide) ?_
  refine lv_icmp_ne (tgt := 20) hx hb dX12_isSign_5 (by decide) (fun c1 => ?_) (fun c1 => ?_)
  · refine lv_iconst (v := nI 0) hx hb dX12_isSign_20 (by decide) ?_
    rw [hQ]
    exact W.zret (v := nI 0) hx hb hr (by decide) (fun t9 ht9 hW9 => ⟨nI 0, rfl, (lf_g_isSign59_1 bt ksize klimit kto kfrom kkind knumber ksign kword ktapeF hp iv_ko_1 iv_ko_2 iv_ko_3 iv_ko_4 hTM hMT c1), ht9⟩) (fun _ h => absurd h List.not_mem_nil) dX12_isSign_21
  · refine lv_aload_n hx hb dX12_isSign_8 rfl (lv_at hl 0 rfl) ?_
    refine va_get (D := (dC, dI)) (ci := 12) (v := .int ksign) (C := RX12) (T := TX12) (N := 52) hx hb hts hin12 hown hK hP 0 rfl rfl 9 (by decide) (hts (.fieldLink RX12 40 "PorridgeSeaModel" "sign" "I") (List.mem_of_getElem? (i := 2) rfl)) (fun _ h9 => h9) rfl dX12_isSign_9 ?_
    refine lv_iload_n hx hb dX12_isSign_12 rfl (lv_at hl 1 rfl) ?_
    refine lv_icmp_ne (tgt := 20) hx hb dX12_isSign_13 (by decide) (fun c2 => ?_) (fun c2 => ?_)
    · refine lv_iconst (v := nI 0) hx hb dX12_isSign_20 (by decide) ?_
      rw [hQ]
      exact W.zret (v := nI 0) hx hb hr (by decide) (fun t9 ht9 hW9 => ⟨nI 0, rfl, (lf_g_isSign59_2 bt ksize klimit kto kfrom kkind knumber ksign kword ktapeF hp iv_ko_1 iv_ko_2 iv_ko_3 iv_ko_4 hTM hMT c1 c2), ht9⟩) (fun _ h => absurd h List.not_mem_nil) dX12_isSign_21
    · refine lv_iconst (v := nI 1) hx hb dX12_isSign_16 (by decide) ?_
      refine lv_goto (tgt := 21) hx hb dX12_isSign_17 (by decide) ?_
      rw [hQ]
      exact W.zret (v := nI 1) hx hb hr (by decide) (fun t9 ht9 hW9 => ⟨nI 1, rfl, (lf_g_isSign59_3 bt ksize klimit kto kfrom kkind knumber ksign kword ktapeF hp iv_ko_1 iv_ko_2 iv_ko_3 iv_ko_4 hTM hMT c1 c2), ht9⟩) (fun _ h => absurd h List.not_mem_nil) dX12_isSign_21
set_option maxRecDepth 20000 in
theorem lf_g_isName_1 (bt : Nat → Nat) (ksize : Nat) (klimit : Nat) (kto : Nat) (kfrom : Nat) (kkind : Int32) (knumber : Int32) (ksign : Int32) (kword : Int64) (ktapeF : Nat → Int32) (hp : Nat) (k6 : Nat) (n9 : Nat) (iv_ko_1 : ksize ≤ 940) (iv_ko_2 : klimit ≤ 900) (iv_ko_3 : kto ≤ ksize) (iv_ko_4 : kfrom ≤ 940) (hTM : TM bt ktapeF) (hMT : MT bt ksize klimit hp kkind ksign kfrom kto knumber kword) (c1 : kkind = nI 2) (j7 : k6 ≤ 31) (jN : ∀ j, j < k6 → kword ≠ Int64.ofNat (cv (WTk j))) (hm11 : 31 - k6 < n9 + 1) (c12 : 30 < k6) : ((nI 1) = nI 1 ∧ (tW bt ksize klimit hp = 31)) ∨ ((nI 1) = nI 0 ∧ (¬ tW bt ksize klimit hp = 31)) := by
  first
    | (refine Or.inr ⟨rfl, isNm_f (k := k6) hMT (by omega) (by assumption) ?_⟩; rw [← ‹WOf _ _› k6 (by omega) rfl]; subst_vars; exact (lg0 _ _).mp (by first | assumption | exact Eq.symm (by assumption)))
    | exact Or.inl ⟨rfl, isNm_t hMT (by assumption) (fun j hj => jN j (by omega))⟩
set_option maxRecDepth 20000 in
theorem lf_g_isName_2 (bt : Nat → Nat) (ksize : Nat) (klimit : Nat) (kto : Nat) (kfrom : Nat) (kkind : Int32) (knumber : Int32) (ksign : Int32) (kword : Int64) (ktapeF : Nat → Int32) (hp : Nat) (k6 : Nat) (n9 : Nat) (r15 : Int64) (y17 : Int32) (iv_ko_1 : ksize ≤ 940) (iv_ko_2 : klimit ≤ 900) (iv_ko_3 : kto ≤ ksize) (iv_ko_4 : kfrom ≤ 940) (hTM : TM bt ktapeF) (hMT : MT bt ksize klimit hp kkind ksign kfrom kto knumber kword) (c1 : kkind = nI 2) (j7 : k6 ≤ 31) (jN : ∀ j, j < k6 → kword ≠ Int64.ofNat (cv (WTk j))) (hm11 : 31 - k6 < n9 + 1) (c12 : k6 ≤ 30) (p16 : WOf (nI k6) r15) (e18 : y17 = lg_cmp kword r15) (c19 : y17 ≠ 0) : (k6 + 1) ≤ 31 := by
  have b_kkind := ia_b kkind
  have b_knumber := ia_b knumber
  have b_ksign := ia_b ksign
  have b_y17 := ia_b y17
  have b_kword := Int64.toInt_lt kword
  have b_r15 := Int64.toInt_lt r15
  try have k_0 := ia_n 2 (by first | decide | omega)
  try have k_1 := ia_n k6 (by first | decide | omega)
  try simp only [ia_lt, ia_le, ia_eq, ia_m1, ia_0, ia_1, ne_eq, true_and, and_true, false_and, and_false, or_false, false_or, or_true, true_or, not_true_eq_false, not_false_eq_true] at *
  all_goals omega
set_option maxRecDepth 20000 in
theorem lf_g_isName_3 (bt : Nat → Nat) (ksize : Nat) (klimit : Nat) (kto : Nat) (kfrom : Nat) (kkind : Int32) (knumber : Int32) (ksign : Int32) (kword : Int64) (ktapeF : Nat → Int32) (hp : Nat) (k6 : Nat) (n9 : Nat) (r15 : Int64) (y17 : Int32) (iv_ko_1 : ksize ≤ 940) (iv_ko_2 : klimit ≤ 900) (iv_ko_3 : kto ≤ ksize) (iv_ko_4 : kfrom ≤ 940) (hTM : TM bt ktapeF) (hMT : MT bt ksize klimit hp kkind ksign kfrom kto knumber kword) (c1 : kkind = nI 2) (j7 : k6 ≤ 31) (jN : ∀ j, j < k6 → kword ≠ Int64.ofNat (cv (WTk j))) (hm11 : 31 - k6 < n9 + 1) (c12 : k6 ≤ 30) (p16 : WOf (nI k6) r15) (e18 : y17 = lg_cmp kword r15) (c19 : y17 ≠ 0) : ∀ j, j < (k6 + 1) → kword ≠ Int64.ofNat (cv (WTk j)) := by
  intro j hj
  by_cases q : j = k6
  · rw [q]
    have h9 := ‹WOf _ _› k6 (by omega) rfl
    rw [← h9]
    intro z
    subst_vars
    exact absurd ((lg0 _ _).mpr rfl) (by assumption)
  · exact jN j (by omega)
set_option maxRecDepth 20000 in
theorem lf_g_isName_4 (bt : Nat → Nat) (ksize : Nat) (klimit : Nat) (kto : Nat) (kfrom : Nat) (kkind : Int32) (knumber : Int32) (ksign : Int32) (kword : Int64) (ktapeF : Nat → Int32) (hp : Nat) (k6 : Nat) (n9 : Nat) (r15 : Int64) (y17 : Int32) (iv_ko_1 : ksize ≤ 940) (iv_ko_2 : klimit ≤ 900) (iv_ko_3 : kto ≤ ksize) (iv_ko_4 : kfrom ≤ 940) (hTM : TM bt ktapeF) (hMT : MT bt ksize klimit hp kkind ksign kfrom kto knumber kword) (c1 : kkind = nI 2) (j7 : k6 ≤ 31) (jN : ∀ j, j < k6 → kword ≠ Int64.ofNat (cv (WTk j))) (hm11 : 31 - k6 < n9 + 1) (c12 : k6 ≤ 30) (p16 : WOf (nI k6) r15) (e18 : y17 = lg_cmp kword r15) (c19 : y17 ≠ 0) : 31 - (k6 + 1) < n9 := by
  have b_kkind := ia_b kkind
  have b_knumber := ia_b knumber
  have b_ksign := ia_b ksign
  have b_y17 := ia_b y17
  have b_kword := Int64.toInt_lt kword
  have b_r15 := Int64.toInt_lt r15
  try have k_0 := ia_n 2 (by first | decide | omega)
  try have k_1 := ia_n k6 (by first | decide | omega)
  try simp only [ia_lt, ia_le, ia_eq, ia_m1, ia_0, ia_1, ne_eq, true_and, and_true, false_and, and_false, or_false, false_or, or_true, true_or, not_true_eq_false, not_false_eq_true] at *
  all_goals omega
set_option maxRecDepth 20000 in
theorem lf_g_isName_5 (bt : Nat → Nat) (ksize : Nat) (klimit : Nat) (kto : Nat) (kfrom : Nat) (kkind : Int32) (knumber : Int32) (ksign : Int32) (kword : Int64) (ktapeF : Nat → Int32) (hp : Nat) (k6 : Nat) (n9 : Nat) (r15 : Int64) (y17 : Int32) (iv_ko_1 : ksize ≤ 940) (iv_ko_2 : klimit ≤ 900) (iv_ko_3 : kto ≤ ksize) (iv_ko_4 : kfrom ≤ 940) (hTM : TM bt ktapeF) (hMT : MT bt ksize klimit hp kkind ksign kfrom kto knumber kword) (c1 : kkind = nI 2) (j7 : k6 ≤ 31) (jN : ∀ j, j < k6 → kword ≠ Int64.ofNat (cv (WTk j))) (hm11 : 31 - k6 < n9 + 1) (c12 : k6 ≤ 30) (p16 : WOf (nI k6) r15) (e18 : y17 = lg_cmp kword r15) (c19 : y17 = 0) : ((nI 0) = nI 1 ∧ (tW bt ksize klimit hp = 31)) ∨ ((nI 0) = nI 0 ∧ (¬ tW bt ksize klimit hp = 31)) := by
  first
    | (refine Or.inr ⟨rfl, isNm_f (k := k6) hMT (by omega) (by assumption) ?_⟩; rw [← ‹WOf _ _› k6 (by omega) rfl]; subst_vars; exact (lg0 _ _).mp (by first | assumption | exact Eq.symm (by assumption)))
    | exact Or.inl ⟨rfl, isNm_t hMT (by assumption) (fun j hj => jN j (by omega))⟩
set_option maxRecDepth 20000 in
theorem lf_g_isName_6   : 0 ≤ 31 := by
  try simp only [ia_lt, ia_le, ia_eq, ia_m1, ia_0, ia_1, ne_eq, true_and, and_true, false_and, and_false, or_false, false_or, or_true, true_or, not_true_eq_false, not_false_eq_true] at *
  all_goals omega
set_option maxRecDepth 20000 in
theorem lf_g_isName_7 (bt : Nat → Nat) (ksize : Nat) (klimit : Nat) (kto : Nat) (kfrom : Nat) (kkind : Int32) (knumber : Int32) (ksign : Int32) (kword : Int64) (ktapeF : Nat → Int32) (hp : Nat) (iv_ko_1 : ksize ≤ 940) (iv_ko_2 : klimit ≤ 900) (iv_ko_3 : kto ≤ ksize) (iv_ko_4 : kfrom ≤ 940) (hTM : TM bt ktapeF) (hMT : MT bt ksize klimit hp kkind ksign kfrom kto knumber kword) (c1 : kkind = nI 2) : ∀ j, j < 0 → kword ≠ Int64.ofNat (cv (WTk j)) := by
  intro j hj; exact absurd hj (Nat.not_lt_zero j)
set_option maxRecDepth 20000 in
theorem lf_g_isName_8 (bt : Nat → Nat) (ksize : Nat) (klimit : Nat) (kto : Nat) (kfrom : Nat) (kkind : Int32) (knumber : Int32) (ksign : Int32) (kword : Int64) (ktapeF : Nat → Int32) (hp : Nat) (iv_ko_1 : ksize ≤ 940) (iv_ko_2 : klimit ≤ 900) (iv_ko_3 : kto ≤ ksize) (iv_ko_4 : kfrom ≤ 940) (hTM : TM bt ktapeF) (hMT : MT bt ksize klimit hp kkind ksign kfrom kto knumber kword) (c1 : ¬ kkind = nI 2) : ((nI 0) = nI 1 ∧ (tW bt ksize klimit hp = 31)) ∨ ((nI 0) = nI 0 ∧ (¬ tW bt ksize klimit hp = 31)) := by
  exact Or.inr ⟨rfl, isW_n hMT (by decide) (by assumption)⟩
set_option maxHeartbeats 4000000 in
set_option maxRecDepth 100000 in
theorem c_g_isName (l : Launch) (dC : Nat → ClassId) (dI : Nat → Nat → Nat) (ky : Nat → ClassId) (sz : Nat) (bt : Nat → Nat) (o : Nat) (kthrown : Int32) (ktape : Nat) (ktaped : Nat) (ksize : Nat) (klimit : Nat) (kto : Nat) (kfrom : Nat) (kkind : Int32) (knumber : Int32) (ksign : Int32) (kfault : Int32) (kplace : Int32) (kword : Int64) (ktold : Int32) (know : Nat) (kread : Nat) (kkept : Nat) (ksnaps : Nat) (kaside : Nat) (kname : Nat) (kreadName : Nat) (kkeptName : Nat) (kisKept : Nat) (konces : Nat) (ksnapMany : Nat) (khasCells : Int32) (kpoured : Nat) (kfar : Nat) (ksides : Nat) (ksideMany : Nat) (kwayDays : Int32) (khasWay : Int32) (klines : Nat) (kmet : Nat) (kmetMany : Nat) (ksunk : Nat) (ktrying : Nat) (ksunkMany : Nat) (ksending : Int32) (kfleets : Int32) (ktext : Nat) (ktexts : Nat) (kseed : Int32) (kline : Nat) (kwritten : Nat) (klineMany : Nat) (khasWritten : Int32) (knode : Nat) (knodes : Nat) (konesMany : Nat) (kwithin : Nat) (ktop : Nat) (ktapeF : Nat → Int32) (hp : Nat) (iv_ko_0 : ktaped ≤ 940) (iv_ko_1 : ksize ≤ 940) (iv_ko_2 : klimit ≤ 900) (iv_ko_3 : kto ≤ ksize) (iv_ko_4 : kfrom ≤ 940) (iv_ko_5 : ksnapMany ≤ 8) (iv_ko_6 : ksideMany ≤ 36) (iv_ko_7 : kmetMany ≤ 3) (iv_ko_8 : ksunkMany ≤ 36) (iv_ko_9 : ktexts ≤ 64) (iv_ko_10 : klineMany ≤ 40) (iv_ko_11 : knodes ≤ 60) (iv_ko_12 : konesMany ≤ 20) (iv_ko_13 : kwithin ≤ 8) (iv_ko_14 : ktop ≤ 59) (hTM : TM bt ktapeF) (hMT : MT bt ksize klimit hp kkind ksign kfrom kto knumber kword) : Met l yX12_isName wsX12_isName ({ frames := 2, cells := 0, slots := 0, locals := 47 }) (PcU dC dI ky [.ref o] [(o, .inr (12, [.int kthrown, .ref ktape, .int (nI ktaped), .int (nI ksize), .int (nI klimit), .int (nI kto), .int (nI kfrom), .int kkind, .int knumber, .int ksign, .int kfault, .int kplace, .long kword, .int ktold, .ref know, .ref kread, .ref kkept, .ref ksnaps, .ref kaside, .ref kname, .ref kreadName, .ref kkeptName, .ref kisKept, .ref konces, .int (nI ksnapMany), .int khasCells, .ref kpoured, .ref kfar, .ref ksides, .int (nI ksideMany), .int kwayDays, .int khasWay, .ref klines, .ref kmet, .int (nI kmetMany), .ref ksunk, .ref ktrying, .int (nI ksunkMany), .int ksending, .int kfleets, .ref ktext, .int (nI ktexts), .int kseed, .ref kline, .ref kwritten, .int (nI klineMany), .int khasWritten, .ref knode, .int (nI knodes), .int (nI konesMany), .int (nI kwithin), .int (nI ktop)])), (ktape, .inl (ky 0, 940, .inl ktapeF))] sz) (va_Qi (fun (r : Int32) (_ : Unit) => (r = nI 1 ∧ (tW bt ksize klimit hp = 31)) ∨ (r = nI 0 ∧ (¬ tW bt ksize klimit hp = 31))) (BU dC dI ky (fun (_ : Unit) => [(o, .inr (12, [.int kthrown, .ref ktape, .int (nI ktaped), .int (nI ksize), .int (nI klimit), .int (nI kto), .int (nI kfrom), .int kkind, .int knumber, .int ksign, .int kfault, .int kplace, .long kword, .int ktold, .ref know, .ref kread, .ref kkept, .ref ksnaps, .ref kaside, .ref kname, .ref kreadName, .ref kkeptName, .ref kisKept, .ref konces, .int (nI ksnapMany), .int khasCells, .ref kpoured, .ref kfar, .ref ksides, .int (nI ksideMany), .int kwayDays, .int khasWay, .ref klines, .ref kmet, .int (nI kmetMany), .ref ksunk, .ref ktrying, .int (nI ksunkMany), .int ksending, .int kfleets, .ref ktext, .int (nI ktexts), .int kseed, .ref kline, .ref kwritten, .int (nI klineMany), .int khasWritten, .ref knode, .int (nI knodes), .int (nI konesMany), .int (nI kwithin), .int (nI ktop)])), (ktape, .inl (ky 0, 940, .inl ktapeF))]) (va_A [(o, .inr (12, [.int kthrown, .ref ktape, .int (nI ktaped), .int (nI ksize), .int (nI klimit), .int (nI kto), .int (nI kfrom), .int kkind, .int knumber, .int ksign, .int kfault, .int kplace, .long kword, .int ktold, .ref know, .ref kread, .ref kkept, .ref ksnaps, .ref kaside, .ref kname, .ref kreadName, .ref kkeptName, .ref kisKept, .ref konces, .int (nI ksnapMany), .int khasCells, .ref kpoured, .ref kfar, .ref ksides, .int (nI ksideMany), .int kwayDays, .int khasWay, .ref klines, .ref kmet, .int (nI kmetMany), .ref ksunk, .ref ktrying, .int (nI ksunkMany), .int ksending, .int kfleets, .ref ktext, .int (nI ktexts), .int kseed, .ref kline, .ref kwritten, .int (nI klineMany), .int khasWritten, .ref knode, .int (nI knodes), .int (nI konesMany), .int (nI kwithin), .int (nI ktop)])), (ktape, .inl (ky 0, 940, .inl ktapeF))] sz)) (va_A [(o, .inr (12, [.int kthrown, .ref ktape, .int (nI ktaped), .int (nI ksize), .int (nI klimit), .int (nI kto), .int (nI kfrom), .int kkind, .int knumber, .int ksign, .int kfault, .int kplace, .long kword, .int ktold, .ref know, .ref kread, .ref kkept, .ref ksnaps, .ref kaside, .ref kname, .ref kreadName, .ref kkeptName, .ref kisKept, .ref konces, .int (nI ksnapMany), .int khasCells, .ref kpoured, .ref kfar, .ref ksides, .int (nI ksideMany), .int kwayDays, .int khasWay, .ref klines, .ref kmet, .int (nI kmetMany), .ref ksunk, .ref ktrying, .int (nI ksunkMany), .int ksending, .int kfleets, .ref ktext, .int (nI ktexts), .int kseed, .ref kline, .ref kwritten, .int (nI klineMany), .int khasWritten, .ref knode, .int (nI knodes), .int (nI konesMany), .int (nI kwithin), .int (nI ktop)])), (ktape, .inl (ky 0, 940, .inl ktapeF))] sz)) 0 0 (va_A [(o, .inr (12, [.int kthrown, .ref ktape, .int (nI ktaped), .int (nI ksize), .int (nI klimit), .int (nI kto), .int (nI kfrom), .int kkind, .int knumber, .int ksign, .int kfault, .int kplace, .long kword, .int ktold, .ref know, .ref kread, .ref kkept, .ref ksnaps, .ref kaside, .ref kname, .ref kreadName, .ref kkeptName, .ref kisKept, .ref konces, .int (nI ksnapMany), .int khasCells, .ref kpoured, .ref kfar, .ref ksides, .int (nI ksideMany), .int kwayDays, .int khasWay, .ref klines, .ref kmet, .int (nI kmetMany), .ref ksunk, .ref ktrying, .int (nI ksunkMany), .int ksending, .int kfleets, .ref ktext, .int (nI ktexts), .int kseed, .ref kline, .ref kwritten, .int (nI klineMany), .int khasWritten, .ref knode, .int (nI knodes), .int (nI konesMany), .int (nI kwithin), .int (nI ktop)])), (ktape, .inl (ky 0, 940, .inl ktapeF))] sz) := by
  refine Met.ofW (cc := cX12_isName) (maxL := 2) (ret := (some .boolean)) (by decide) rfl ?_
  intro p e s m args below meth c s₁ B hml hv
  obtain ⟨rfl, hsz, hP, hK, hD0⟩ := hv
  have hx := B.exec
  have hb := B.bytes
  have hr := B.returns
  have hts := atoms_spec (ws := wsX12_isName) B.pre
  have hown : s.vm.findClass RX12 = some m.cls := findClass_of_methodNamed B.named
  have hlocks := B.notSynchronized
  have hin12 : ∀ w ∈ u_ws RX12 TX12 52, w ∈ wsX12_isName := by decide +kernel
  subst hsz
  have hD := hD0.self (sz := s.heap.size)
  generalize hAe : va_A [(o, .inr (12, [.int kthrown, .ref ktape, .int (nI ktaped), .int (nI ksize), .int (nI klimit), .int (nI kto), .int (nI kfrom), .int kkind, .int knumber, .int ksign, .int kfault, .int kplace, .long kword, .int ktold, .ref know, .ref kread, .ref kkept, .ref ksnaps, .ref kaside, .ref kname, .ref kreadName, .ref kkeptName, .ref kisKept, .ref konces, .int (nI ksnapMany), .int khasCells, .ref kpoured, .ref kfar, .ref ksides, .int (nI ksideMany), .int kwayDays, .int khasWay, .ref klines, .ref kmet, .int (nI kmetMany), .ref ksunk, .ref ktrying, .int (nI ksunkMany), .int ksending, .int kfleets, .ref ktext, .int (nI ktexts), .int kseed, .ref kline, .ref kwritten, .int (nI klineMany), .int khasWritten, .ref knode, .int (nI knodes), .int (nI konesMany), .int (nI kwithin), .int (nI ktop)])), (ktape, .inl (ky 0, 940, .inl ktapeF))] s.heap.size = A at hD ⊢
  have hA : ∀ q : Nat, s.heap.size ≤ q → A q := fun q h => by rw [← hAe]; exact Or.inr h
  have hS : va_S A s.heap s.heap [] := va_S.rf
  have hl := lv_entry ([.ref o]) (n := 2) (Nat.le_of_ble_eq_true rfl)
  rw [lg_entry_eq]
  generalize (lg_sl ([.ref o]) ++ List.replicate (2 - (lg_sl ([.ref o])).length) Slot.unset).toArray = ls at hl ⊢
  have hl : lv_has ls 2 [(0, .ref o)] := hl
  refine q_name (fun Q hQ => ?_)
  generalize ([.ref o] : List Value).toArray = args at hts hQ ⊢
  refine lv_aload_n hx hb dX12_isName_0 rfl (lv_at hl 0 rfl) ?_
  refine va_get (D := (dC, dI)) (ci := 12) (v := .int kkind) (C := RX12) (T := TX12) (N := 52) hx hb hts hin12 hown hK hP 0 rfl rfl 7 (by decide) (hts (.fieldLink RX12 30 "PorridgeSeaModel" "kind" "I") (List.mem_of_getElem? (i := 1) rfl)) (fun _ h9 => h9) rfl dX12_isName_1 ?_
  refine lv_iconst (v := nI 2) hx hb dX12_isName_4 (by decide) ?_
  refine lv_icmp_eq (tgt := 10) hx hb dX12_isName_5 (by decide) (fun c1 => ?_) (fun c1 => ?_)
  · refine lv_iconst (v := nI 0) hx hb dX12_isName_10 (by decide) ?_
    refine lv_istore_n (lv' := [(1, .int (nI 0)), (0, .ref o)]) hx hb dX12_isName_11 rfl hl (by decide) rfl (fun ls hl => ?_)
    have hL8 : ∀ (n9 : Nat) (k6 : Nat), (k6 ≤ 31) → (∀ j, j < k6 → kword ≠ Int64.ofNat (cv (WTk j))) → 31 - k6 < n9 → ∀ (H : Heap) (locs : List Loc) (ls : Array Slot), va_P (dC, dI) vwCl [(o, .inr (12, [.int kthrown, .ref ktape, .int (nI ktaped), .int (nI ksize), .int (nI klimit), .int (nI kto), .int (nI kfrom), .int kkind, .int knumber, .int ksign, .int kfault, .int kplace, .long kword, .int ktold, .ref know, .ref kread, .ref kkept, .ref ksnaps, .ref kaside, .ref kname, .ref kreadName, .ref kkeptName, .ref kisKept, .ref konces, .int (nI ksnapMany), .int khasCells, .ref kpoured, .ref kfar, .ref ksides, .int (nI ksideMany), .int kwayDays, .int khasWay, .ref klines, .ref kmet, .int (nI kmetMany), .ref ksunk, .ref ktrying, .int (nI ksunkMany), .int ksending, .int kfleets, .ref ktext, .int (nI ktexts), .int kseed, .ref kline, .ref kwritten, .int (nI klineMany), .int khasWritten, .ref knode, .int (nI knodes), .int (nI konesMany), .int (nI kwithin), .int (nI ktop)])), (ktape, .inl (ky 0, 940, .inl ktapeF))] H → va_D A [(o, .inr (12, [.int kthrown, .ref ktape, .int (nI ktaped), .int (nI ksize), .int (nI klimit), .int (nI kto), .int (nI kfrom), .int kkind, .int knumber, .int ksign, .int kfault, .int kplace, .long kword, .int ktold, .ref know, .ref kread, .ref kkept, .ref ksnaps, .ref kaside, .ref kname, .ref kreadName, .ref kkeptName, .ref kisKept, .ref konces, .int (nI ksnapMany), .int khasCells, .ref kpoured, .ref kfar, .ref ksides, .int (nI ksideMany), .int kwayDays, .int khasWay, .ref klines, .ref kmet, .int (nI kmetMany), .ref ksunk, .ref ktrying, .int (nI ksunkMany), .int ksending, .int kfleets, .ref ktext, .int (nI ktexts), .int kseed, .ref kline, .ref kwritten, .int (nI klineMany), .int khasWritten, .ref knode, .int (nI knodes), .int (nI konesMany), .int (nI kwithin), .int (nI ktop)])), (ktape, .inl (ky 0, 940, .inl ktapeF))] → va_S A s.heap H locs → lv_has ls 2 [(1, .int (nI k6)), (0, .ref o)] → W p l e (headSpec wsX12_isName ({ frames := 2, cells := 0, slots := 0, locals := 47 })).room s m args below meth c H locs 0 0 Q (F0 m 12 ls []) := by
      intro n9
      induction n9 with
      | zero => intro k6 _ _ h9; exact absurd h9 (Nat.not_lt_zero _)
      | succ n9 ih10 =>
        intro k6 j7 jN hm11 H locs ls hP hD hS hl
        refine lv_iload_n hx hb dX12_isName_12 rfl (lv_at hl 0 rfl) ?_
        refine lv_bipush (v := nI 30) hx hb dX12_isName_13 (by decide) ?_
        refine n_icmp_gt (x := k6) (y := 30) (tgt := 38) hx hb (by omega) (by omega) dX12_isName_15 (by decide) (fun c12 => ?_) (fun c12 => ?_)
        · refine lv_iconst (v := nI 1) hx hb dX12_isName_38 (by decide) ?_
          rw [hQ]
          exact W.zret (v := nI 1) hx hb hr (by decide) (fun t9 ht9 hW9 => ⟨⟨nI 1, (), rfl, (lf_g_isName_1 bt ksize klimit kto kfrom kkind knumber ksign kword ktapeF hp k6 n9 iv_ko_1 iv_ko_2 iv_ko_3 iv_ko_4 hTM hMT c1 j7 jN hm11 c12), by rw [ht9]; exact hP, va_K.moved hW9.alike hK, hD⟩, hS.F ht9⟩) hS.2.2 dX12_isName_39
        · refine lv_aload_n hx hb dX12_isName_18 rfl (lv_at hl 1 rfl) ?_
          refine va_get (D := (dC, dI)) (ci := 12) (v := .long kword) (C := RX12) (T := TX12) (N := 52) hx hb hts hin12 hown hK hP 0 rfl rfl 12 (by decide) (hts (.fieldLink RX12 43 "PorridgeSeaModel" "word" "J") (List.mem_of_getElem? (i := 2) rfl)) (fun _ h9 => h9) rfl dX12_isName_19 ?_
          refine lv_iload_n hx hb dX12_isName_22 rfl (lv_at hl 0 rfl) ?_
          refine r_call_l (wr := [(o, .inr (12, [.int kthrown, .ref ktape, .int (nI ktaped), .int (nI ksize), .int (nI klimit), .int (nI kto), .int (nI kfrom), .int kkind, .int knumber, .int ksign, .int kfault, .int kplace, .long kword, .int ktold, .ref know, .ref kread, .ref kkept, .ref ksnaps, .ref kaside, .ref kname, .ref kreadName, .ref kkeptName, .ref kisKept, .ref konces, .int (nI ksnapMany), .int khasCells, .ref kpoured, .ref kfar, .ref ksides, .int (nI ksideMany), .int kwayDays, .int khasWay, .ref klines, .ref kmet, .int (nI kmetMany), .ref ksunk, .ref ktrying, .int (nI ksunkMany), .int ksending, .int kfleets, .ref ktext, .int (nI ktexts), .int kseed, .ref kline, .ref kwritten, .int (nI klineMany), .int khasWritten, .ref knode, .int (nI knodes), .int (nI konesMany), .int (nI kwithin), .int (nI ktop)])), (ktape, .inl (ky 0, 940, .inl ktapeF))]) (va_runS (As := [.int (nI k6)]) (rest := [.long kword]) ⟨hx, hb, hml, hown, hts⟩ (c_g_wordOf l dC dI ky H.size (nI k6)) (va_cwS 1 hts gX12_isName_X12_wordOf rfl rfl rfl (by decide +kernel) ⟨(Nat.le_of_ble_eq_true rfl), (Nat.le_of_ble_eq_true rfl)⟩) (pre_US hK hP hD [] (by decide) rfl) rfl rfl hl.1 rfl (lv_room (Nat.le_of_ble_eq_true rfl)) dX12_isName_23 ⟨(Nat.le_of_ble_eq_true rfl), (Nat.le_of_ble_eq_true rfl)⟩) hP hD hS hA [] [0, 1] rfl rfl (by decide) (by decide) (fun r15 u13 H locs p14 hP hD hS => ?_)
          try dsimp only at p14
          have p16 := p14
          refine W.widen (k := 0) (n := 0) (Nat.le_of_ble_eq_true rfl) (Nat.le_of_ble_eq_true rfl) ?_
          have hP : va_P (dC, dI) vwCl [(o, .inr (12, [.int kthrown, .ref ktape, .int (nI ktaped), .int (nI ksize), .int (nI klimit), .int (nI kto), .int (nI kfrom), .int kkind, .int knumber, .int ksign, .int kfault, .int kplace, .long kword, .int ktold, .ref know, .ref kread, .ref kkept, .ref ksnaps, .ref kaside, .ref kname, .ref kreadName, .ref kkeptName, .ref kisKept, .ref konces, .int (nI ksnapMany), .int khasCells, .ref kpoured, .ref kfar, .ref ksides, .int (nI ksideMany), .int kwayDays, .int khasWay, .ref klines, .ref kmet, .int (nI kmetMany), .ref ksunk, .ref ktrying, .int (nI ksunkMany), .int ksending, .int kfleets, .ref ktext, .int (nI ktexts), .int kseed, .ref kline, .ref kwritten, .int (nI klineMany), .int khasWritten, .ref knode, .int (nI knodes), .int (nI konesMany), .int (nI kwithin), .int (nI ktop)])), (ktape, .inl (ky 0, 940, .inl ktapeF))] H := hP
          have hD : va_D A [(o, .inr (12, [.int kthrown, .ref ktape, .int (nI ktaped), .int (nI ksize), .int (nI klimit), .int (nI kto), .int (nI kfrom), .int kkind, .int knumber, .int ksign, .int kfault, .int kplace, .long kword, .int ktold, .ref know, .ref kread, .ref kkept, .ref ksnaps, .ref kaside, .ref kname, .ref kreadName, .ref kkeptName, .ref kisKept, .ref konces, .int (nI ksnapMany), .int khasCells, .ref kpoured, .ref kfar, .ref ksides, .int (nI ksideMany), .int kwayDays, .int khasWay, .ref klines, .ref kmet, .int (nI kmetMany), .ref ksunk, .ref ktrying, .int (nI ksunkMany), .int ksending, .int kfleets, .ref ktext, .int (nI ktexts), .int kseed, .ref kline, .ref kwritten, .int (nI klineMany), .int khasWritten, .ref knode, .int (nI knodes), .int (nI konesMany), .int (nI kwithin), .int (nI ktop)])), (ktape, .inl (ky 0, 940, .inl ktapeF))] := hD
          refine W.lcmp hx hb dX12_isName_26 ?_
          refine lv_topi (fun y17 e18 => ?_)
          refine lv_if_ne (tgt := 32) hx hb dX12_isName_27 (by decide) (fun c19 => ?_) (fun c19 => ?_)
          · refine lv_iinc (v := nI (k6 + 1)) (lv' := [(1, .int (nI (k6 + 1))), (0, .ref o)]) hx hb dX12_isName_32 hl (k := 0) rfl (show nI k6 + nI 1 = nI (k6 + 1) from nI_add _ _) (by decide) rfl (fun ls hl => ?_)
            refine lv_goto (tgt := 12) hx hb dX12_isName_35 (by decide) ?_
            exact ih10 (k6 + 1) (lf_g_isName_2 bt ksize klimit kto kfrom kkind knumber ksign kword ktapeF hp k6 n9 r15 y17 iv_ko_1 iv_ko_2 iv_ko_3 iv_ko_4 hTM hMT c1 j7 jN hm11 c12 p16 e18 c19) (lf_g_isName_3 bt ksize klimit kto kfrom kkind knumber ksign kword ktapeF hp k6 n9 r15 y17 iv_ko_1 iv_ko_2 iv_ko_3 iv_ko_4 hTM hMT c1 j7 jN hm11 c12 p16 e18 c19) (lf_g_isName_4 bt ksize klimit kto kfrom kkind knumber ksign kword ktapeF hp k6 n9 r15 y17 iv_ko_1 iv_ko_2 iv_ko_3 iv_ko_4 hTM hMT c1 j7 jN hm11 c12 p16 e18 c19) _ _ _ hP hD hS (lv_sub hl [0, 1] rfl)
          · refine lv_iconst (v := nI 0) hx hb dX12_isName_30 (by decide) ?_
            rw [hQ]
            exact W.zret (v := nI 0) hx hb hr (by decide) (fun t9 ht9 hW9 => ⟨⟨nI 0, (), rfl, (lf_g_isName_5 bt ksize klimit kto kfrom kkind knumber ksign kword ktapeF hp k6 n9 r15 y17 iv_ko_1 iv_ko_2 iv_ko_3 iv_ko_4 hTM hMT c1 j7 jN hm11 c12 p16 e18 c19), by rw [ht9]; exact hP, va_K.moved hW9.alike hK, hD⟩, hS.F ht9⟩) hS.2.2 dX12_isName_31
    exact hL8 ((31 - 0) + 1) 0 (lf_g_isName_6) (lf_g_isName_7 bt ksize klimit kto kfrom kkind knumber ksign kword ktapeF hp iv_ko_1 iv_ko_2 iv_ko_3 iv_ko_4 hTM hMT c1) (Nat.lt_succ_self _) _ _ _ hP hD hS (lv_sub hl [0, 1] rfl)
  · refine lv_iconst (v := nI 0) hx hb dX12_isName_8 (by decide) ?_
    rw [hQ]
    exact W.zret (v := nI 0) hx hb hr (by decide) (fun t9 ht9 hW9 => ⟨⟨nI 0, (), rfl, (lf_g_isName_8 bt ksize klimit kto kfrom kkind knumber ksign kword ktapeF hp iv_ko_1 iv_ko_2 iv_ko_3 iv_ko_4 hTM hMT c1), by rw [ht9]; exact hP, va_K.moved hW9.alike hK, hD⟩, hS.F ht9⟩) hS.2.2 dX12_isName_9
