section SeaRel
def hasI (n : Nat) (f : Nat → Int32) (x : Int32) : Prop := ∃ j, j < n ∧ f j = x
def hasJ (n : Nat) (f : Nat → Int64) (x : Int64) : Prop := ∃ j, j < n ∧ f j = x
def fstJ (f : Nat → Int64) (x : Int64) (k : Nat) : Prop := f k = x ∧ ∀ j, j < k → f j ≠ x
/-- the class's numbers of a SEA that is told -/
def CS (σ ν : Nat → Nat) (wide high : Nat) (heat cools skin : Int32) (lumps boats : Nat) (th : Nat → Int32) (ln : Nat → Int64) (lc : Nat → Int32) (bn : Nat → Int64) (bc ld sp : Nat → Int32) : Prop :=
  wide = σ 0 ∧ high = σ 1 ∧ lumps = σ 2 ∧ boats = σ 3 ∧ heat = nI (σ 4) ∧ cools = nI (σ 5) ∧ skin = nI (σ 6) ∧ (∀ c, c < 36 → th c = nI (σ (7 + c))) ∧ (∀ l, l < σ 2 → ln l = Int64.ofNat (ν l) ∧ lc l = nI (σ (43 + l))) ∧ (∀ b, b < σ 3 → bn b = Int64.ofNat (ν (6 + b)) ∧ bc b = nI (σ (49 + b)) ∧ ld b = nI (σ (55 + b)) ∧ sp b = nI (σ (61 + b)))
/-- the first words told so far, as bits -/
def TB (x : Int32) (σ : Nat → Nat) : Prop := x = nI (σ 100 + 2 * σ 101 + 4 * σ 102 + 8 * σ 103 + 16 * σ 104 + 32 * σ 105 + 64 * σ 106)
theorem SW_0 : SW s0 (fun _ => 0) := by
  unfold SW
  refine ⟨by decide, by decide, by decide, by decide, by decide, by decide, ?_, ?_, ?_, ?_, ?_, ?_, by decide, by decide, by decide⟩
  · intro c hc; exact (by decide : ∀ c, c < 36 → s0 (7 + c) ≤ 9) c hc
  · intro c hc; exact (by decide : ∀ c, c < 12 → s0 (43 + c) ≤ 35) c hc
  · intro c hc; exact (by decide : ∀ c, c < 12 → s0 (55 + c) ≤ 9) c hc
  · intro c hc; exact absurd hc (Nat.not_lt_zero c)
  · intro c hc; exact absurd hc (Nat.not_lt_zero c)
  · intro c hc; exact (by decide : ∀ c, c < 7 → s0 (100 + c) ≤ 1) c hc
theorem CS_0 {th : Nat → Int32} {ln bn : Nat → Int64} {lc bc ld sp : Nat → Int32} (h : ∀ c, c < 36 → th c = nI 0) : CS s0 (fun _ => 0) 4 4 (nI 10) (nI 1) (nI 3) 0 0 th ln lc bn bc ld sp := by
  refine ⟨rfl, rfl, rfl, rfl, rfl, rfl, rfl, ?_, ?_, ?_⟩
  · intro c hc
    rw [h c hc, (by decide : ∀ c, c < 36 → s0 (7 + c) = 0) c hc]
  · intro c hc; exact absurd hc (Nat.not_lt_zero c)
  · intro c hc; exact absurd hc (Nat.not_lt_zero c)
theorem TB_0 : TB (nI 0) s0 := by unfold TB; decide
section Steps
variable {σ ν : Nat → Nat} {wide high lumps boats : Nat} {heat cools skin : Int32} {th lc bc ld sp : Nat → Int32} {ln bn : Nat → Int64}
theorem CS_same {σ' : Nat → Nat} (h : CS σ ν wide high heat cools skin lumps boats th ln lc bn bc ld sp) (hw : SW σ ν) (e : ∀ j, j < 100 → σ' j = σ j) : CS σ' ν wide high heat cools skin lumps boats th ln lc bn bc ld sp := by
  obtain ⟨h0, h1, h2, h3, h4, h5, h6, h7, h8, h9⟩ := h
  obtain ⟨w0, w1, w2, w3, w4, w5, w6⟩ := hw
  refine ⟨by rw [e 0 (by omega)]; exact h0, by rw [e 1 (by omega)]; exact h1, by rw [e 2 (by omega)]; exact h2, by rw [e 3 (by omega)]; exact h3, by rw [e 4 (by omega)]; exact h4, by rw [e 5 (by omega)]; exact h5, by rw [e 6 (by omega)]; exact h6, ?_, ?_, ?_⟩
  · intro c hc; rw [e (7 + c) (by omega)]; exact h7 c hc
  · intro c hc; rw [e 2 (by omega)] at hc; rw [e (43 + c) (by omega)]; exact h8 c hc
  · intro c hc; rw [e 3 (by omega)] at hc; rw [e (49 + c) (by omega), e (55 + c) (by omega), e (61 + c) (by omega)]; exact h9 c hc
theorem SW_flag {σ' : Nat → Nat} (h : SW σ' ν) (k : Nat) (hk : k < 7) : SW (updN σ' (100 + k) 1) ν := by
  obtain ⟨a0, a1, a2, a3, a4, a5, a6, a7, a8, a9, a10, a11, a12, a13, a14⟩ := h
  have e : ∀ j, j < 100 → updN σ' (100 + k) 1 j = σ' j := fun j hj => updN_ne (by omega)
  unfold SW
  rw [e 0 (by omega), e 1 (by omega), e 2 (by omega), e 3 (by omega), e 4 (by omega), e 5 (by omega), e 6 (by omega)]
  refine ⟨a0, a1, a2, a3, a4, a5, ?_, ?_, ?_, a9, a10, ?_, a12, a13, a14⟩
  · intro c hc; rw [e _ (by omega)]; exact a6 c hc
  · intro c hc; rw [e _ (by omega)]; exact a7 c hc
  · intro c hc; rw [e _ (by omega)]; exact a8 c hc
  · intro c hc
    by_cases hck : c = k
    · rw [hck, updN_eq]; exact Nat.le_refl _
    · rw [updN_ne (by omega)]; exact a11 c hc
theorem CS_flag {σ' : Nat → Nat} (h : CS σ' ν wide high heat cools skin lumps boats th ln lc bn bc ld sp) (hw : SW σ' ν) (k : Nat) : CS (updN σ' (100 + k) 1) ν wide high heat cools skin lumps boats th ln lc bn bc ld sp :=
  CS_same h hw (fun j hj => updN_ne (by omega))
theorem CS_size (h : CS σ ν wide high heat cools skin lumps boats th ln lc bn bc ld sp) (hw : SW σ ν) {w k : Nat} (b1 : 2 ≤ w) (b2 : w ≤ 6) (b3 : 2 ≤ k) (b4 : k ≤ 6) : CS (updN (updN σ 0 w) 1 k) ν w k heat cools skin lumps boats th ln lc bn bc ld sp ∧ SW (updN (updN σ 0 w) 1 k) ν := by
  obtain ⟨h0, h1, h2, h3, h4, h5, h6, h7, h8, h9⟩ := h
  obtain ⟨a0, a1, a2, a3, a4, a5, a6, a7, a8, a9, a10, a11, a12, a13, a14⟩ := hw
  have e : ∀ j, 2 ≤ j → updN (updN σ 0 w) 1 k j = σ j := fun j hj => by rw [updN_ne (by omega), updN_ne (by omega)]
  have e0 : updN (updN σ 0 w) 1 k 0 = w := by rw [updN_ne (by omega), updN_eq]
  have e1 : updN (updN σ 0 w) 1 k 1 = k := updN_eq _ _ _
  constructor
  · unfold CS
    rw [e0, e1, e 2 (by omega), e 3 (by omega), e 4 (by omega), e 5 (by omega), e 6 (by omega)]
    refine ⟨rfl, rfl, h2, h3, h4, h5, h6, ?_, ?_, ?_⟩
    · intro c hc; rw [e _ (by omega)]; exact h7 c hc
    · intro c hc; rw [e _ (by omega)]; exact h8 c hc
    · intro c hc; rw [e _ (by omega), e (55 + c) (by omega), e (61 + c) (by omega)]; exact h9 c hc
  · unfold SW
    rw [e0, e1, e 2 (by omega), e 3 (by omega), e 4 (by omega), e 5 (by omega), e 6 (by omega)]
    refine ⟨b1, b2, b3, b4, a4, a5, ?_, ?_, ?_, a9, a10, ?_, a12, a13, a14⟩
    · intro c hc; rw [e _ (by omega)]; exact a6 c hc
    · intro c hc; rw [e _ (by omega)]; exact a7 c hc
    · intro c hc; rw [e _ (by omega)]; exact a8 c hc
    · intro c hc; rw [e _ (by omega)]; exact a11 c hc
theorem CS_thick (h : CS σ ν wide high heat cools skin lumps boats th ln lc bn bc ld sp) (hw : SW σ ν) {k t : Nat} (hk : k < 36) (ht : t ≤ 9) : CS (updN σ (7 + k) t) ν wide high heat cools skin lumps boats (upd th k (nI t)) ln lc bn bc ld sp ∧ SW (updN σ (7 + k) t) ν := by
  obtain ⟨h0, h1, h2, h3, h4, h5, h6, h7, h8, h9⟩ := h
  obtain ⟨a0, a1, a2, a3, a4, a5, a6, a7, a8, a9, a10, a11, a12, a13, a14⟩ := hw
  have e : ∀ j, j < 7 ∨ 43 ≤ j → updN σ (7 + k) t j = σ j := fun j hj => updN_ne (by omega)
  constructor
  · unfold CS
    rw [e 0 (by omega), e 1 (by omega), e 2 (by omega), e 3 (by omega), e 4 (by omega), e 5 (by omega), e 6 (by omega)]
    refine ⟨h0, h1, h2, h3, h4, h5, h6, ?_, ?_, ?_⟩
    · intro c hc
      unfold upd
      by_cases hck : c = k
      · rw [if_pos hck, hck, updN_eq]
      · rw [if_neg hck, updN_ne (by omega)]; exact h7 c hc
    · intro c hc; rw [e _ (by omega)]; exact h8 c hc
    · intro c hc; rw [e _ (by omega), e (55 + c) (by omega), e (61 + c) (by omega)]; exact h9 c hc
  · unfold SW
    rw [e 0 (by omega), e 1 (by omega), e 2 (by omega), e 3 (by omega), e 4 (by omega), e 5 (by omega), e 6 (by omega)]
    refine ⟨a0, a1, a2, a3, a4, a5, ?_, ?_, ?_, a9, a10, ?_, a12, a13, a14⟩
    · intro c hc
      by_cases hck : c = k
      · rw [hck, updN_eq]; exact ht
      · rw [updN_ne (by omega)]; exact a6 c hc
    · intro c hc; rw [e _ (by omega)]; exact a7 c hc
    · intro c hc; rw [e _ (by omega)]; exact a8 c hc
    · intro c hc; rw [e _ (by omega)]; exact a11 c hc
theorem CS_set (h : CS σ ν wide high heat cools skin lumps boats th ln lc bn bc ld sp) (hw : SW σ ν) {k v : Nat} (hk : k = 4 ∧ v ≤ 30 ∨ k = 5 ∧ v ≤ 5 ∨ k = 6 ∧ v ≤ 30) : CS (updN σ k v) ν wide high (if k = 4 then nI v else heat) (if k = 5 then nI v else cools) (if k = 6 then nI v else skin) lumps boats th ln lc bn bc ld sp ∧ SW (updN σ k v) ν := by
  obtain ⟨h0, h1, h2, h3, h4, h5, h6, h7, h8, h9⟩ := h
  obtain ⟨a0, a1, a2, a3, a4, a5, a6, a7, a8, a9, a10, a11, a12, a13, a14⟩ := hw
  have e : ∀ j, j < 4 ∨ 7 ≤ j → updN σ k v j = σ j := fun j hj => updN_ne (by omega)
  constructor
  · unfold CS
    rw [e 0 (by omega), e 1 (by omega), e 2 (by omega), e 3 (by omega)]
    refine ⟨h0, h1, h2, h3, ?_, ?_, ?_, ?_, ?_, ?_⟩
    · by_cases q : k = 4
      · rw [if_pos q, q, updN_eq]
      · rw [if_neg q, updN_ne (by omega)]; exact h4
    · by_cases q : k = 5
      · rw [if_pos q, q, updN_eq]
      · rw [if_neg q, updN_ne (by omega)]; exact h5
    · by_cases q : k = 6
      · rw [if_pos q, q, updN_eq]
      · rw [if_neg q, updN_ne (by omega)]; exact h6
    · intro c hc; rw [e _ (by omega)]; exact h7 c hc
    · intro c hc; rw [e _ (by omega)]; exact h8 c hc
    · intro c hc; rw [e _ (by omega), e (55 + c) (by omega), e (61 + c) (by omega)]; exact h9 c hc
  · unfold SW
    rw [e 0 (by omega), e 1 (by omega), e 2 (by omega), e 3 (by omega)]
    refine ⟨a0, a1, a2, a3, a4, a5, ?_, ?_, ?_, a9, a10, ?_, ?_, ?_, ?_⟩
    · intro c hc; rw [e _ (by omega)]; exact a6 c hc
    · intro c hc; rw [e _ (by omega)]; exact a7 c hc
    · intro c hc; rw [e _ (by omega)]; exact a8 c hc
    · intro c hc; rw [e _ (by omega)]; exact a11 c hc
    · by_cases q : k = 4
      · rw [q, updN_eq]; omega
      · rw [updN_ne (by omega)]; exact a12
    · by_cases q : k = 5
      · rw [q, updN_eq]; omega
      · rw [updN_ne (by omega)]; exact a13
    · by_cases q : k = 6
      · rw [q, updN_eq]; omega
      · rw [updN_ne (by omega)]; exact a14
theorem CS_lump (h : CS σ ν wide high heat cools skin lumps boats th ln lc bn bc ld sp) (hw : SW σ ν) (h6' : ¬ 6 ≤ σ 2) {c x : Nat} (hc : c < 36) (hx : GN x) : CS (updN (updN σ (43 + σ 2) c) 2 (σ 2 + 1)) (updN ν (σ 2) x) wide high heat cools skin (lumps + 1) boats th (vp_updL ln lumps (Int64.ofNat x)) (upd lc lumps (nI c)) bn bc ld sp ∧ SW (updN (updN σ (43 + σ 2) c) 2 (σ 2 + 1)) (updN ν (σ 2) x) := by
  obtain ⟨h0, h1, h2, h3, h4, h5, h6, h7, h8, h9⟩ := h
  obtain ⟨a0, a1, a2, a3, a4, a5, a6, a7, a8, a9, a10, a11, a12, a13, a14⟩ := hw
  subst h2
  have e : ∀ j, j ≠ 2 → (j < 43 ∨ 49 ≤ j) → updN (updN σ (43 + σ 2) c) 2 (σ 2 + 1) j = σ j := fun j hj hj2 => by rw [updN_ne hj, updN_ne (by omega)]
  have e2 : updN (updN σ (43 + σ 2) c) 2 (σ 2 + 1) 2 = σ 2 + 1 := updN_eq _ _ _
  have ek : ∀ j, j ≠ σ 2 → updN (updN σ (43 + σ 2) c) 2 (σ 2 + 1) (43 + j) = σ (43 + j) := fun j hj => by rw [updN_ne (by omega), updN_ne (by omega)]
  have en : updN (updN σ (43 + σ 2) c) 2 (σ 2 + 1) (43 + σ 2) = c := by rw [updN_ne (by omega), updN_eq]
  constructor
  · unfold CS
    rw [e2, e 0 (by omega) (by omega), e 1 (by omega) (by omega), e 3 (by omega) (by omega), e 4 (by omega) (by omega), e 5 (by omega) (by omega), e 6 (by omega) (by omega)]
    refine ⟨h0, h1, rfl, h3, h4, h5, h6, ?_, ?_, ?_⟩
    · intro k hk; rw [e _ (by omega) (by omega)]; exact h7 k hk
    · intro k hk
      unfold vp_updL upd
      by_cases q : k = σ 2
      · rw [if_pos q, if_pos q, q, updN_eq, en]; exact ⟨rfl, rfl⟩
      · rw [if_neg q, if_neg q, updN_ne q, ek k q]; exact h8 k (by omega)
    · intro k hk
      rw [e _ (by omega) (by omega), e (55 + k) (by omega) (by omega), e (61 + k) (by omega) (by omega), updN_ne (by omega)]; exact h9 k hk
  · unfold SW
    rw [e2, e 0 (by omega) (by omega), e 1 (by omega) (by omega), e 3 (by omega) (by omega), e 4 (by omega) (by omega), e 5 (by omega) (by omega), e 6 (by omega) (by omega)]
    refine ⟨a0, a1, a2, a3, by omega, a5, ?_, ?_, ?_, ?_, ?_, ?_, a12, a13, a14⟩
    · intro k hk; rw [e _ (by omega) (by omega)]; exact a6 k hk
    · intro k hk
      by_cases q : k = σ 2
      · rw [q, en]; omega
      · rw [ek k q]; exact a7 k hk
    · intro k hk; rw [e _ (by omega) (by omega)]; exact a8 k hk
    · intro k hk
      by_cases q : k = σ 2
      · rw [q, updN_eq]; exact hx
      · rw [updN_ne q]; exact a9 k (by omega)
    · intro k hk; rw [updN_ne (by omega)]; exact a10 k hk
    · intro k hk; rw [e _ (by omega) (by omega)]; exact a11 k hk
theorem CS_boat (h : CS σ ν wide high heat cools skin lumps boats th ln lc bn bc ld sp) (hw : SW σ ν) (h6' : ¬ 6 ≤ σ 3) {c x a b : Nat} (hc : c < 36) (ha : a ≤ 9) (hb : b ≤ 9) (hx : GN x) : CS (updN (updN (updN (updN σ (49 + σ 3) c) (55 + σ 3) a) (61 + σ 3) b) 3 (σ 3 + 1)) (updN ν (6 + σ 3) x) wide high heat cools skin lumps (boats + 1) th ln lc (vp_updL bn boats (Int64.ofNat x)) (upd bc boats (nI c)) (upd ld boats (nI a)) (upd sp boats (nI b)) ∧ SW (updN (updN (updN (updN σ (49 + σ 3) c) (55 + σ 3) a) (61 + σ 3) b) 3 (σ 3 + 1)) (updN ν (6 + σ 3) x) := by
  obtain ⟨h0, h1, h2, h3, h4, h5, h6, h7, h8, h9⟩ := h
  obtain ⟨a0, a1, a2, a3, a4, a5, a6, a7, a8, a9, a10, a11, a12, a13, a14⟩ := hw
  subst h3
  obtain ⟨f, hf⟩ : ∃ f, f = updN (updN (updN (updN σ (49 + σ 3) c) (55 + σ 3) a) (61 + σ 3) b) 3 (σ 3 + 1) := ⟨_, rfl⟩
  have e : ∀ j, j ≠ 3 → (j < 49 ∨ 67 ≤ j) → f j = σ j := fun j hj hj2 => by rw [hf, updN_ne hj, updN_ne (by omega), updN_ne (by omega), updN_ne (by omega)]
  have e3 : f 3 = σ 3 + 1 := by rw [hf, updN_eq]
  have k1 : ∀ j, j < 6 → j ≠ σ 3 → f (49 + j) = σ (49 + j) := fun j hj hj2 => by rw [hf, updN_ne (by omega), updN_ne (by omega), updN_ne (by omega), updN_ne (by omega)]
  have k2 : ∀ j, j < 6 → j ≠ σ 3 → f (55 + j) = σ (55 + j) := fun j hj hj2 => by rw [hf, updN_ne (by omega), updN_ne (by omega), updN_ne (by omega), updN_ne (by omega)]
  have k3 : ∀ j, j < 6 → j ≠ σ 3 → f (61 + j) = σ (61 + j) := fun j hj hj2 => by rw [hf, updN_ne (by omega), updN_ne (by omega), updN_ne (by omega), updN_ne (by omega)]
  have n1 : f (49 + σ 3) = c := by rw [hf, updN_ne (by omega), updN_ne (by omega), updN_ne (by omega), updN_eq]
  have n2 : f (55 + σ 3) = a := by rw [hf, updN_ne (by omega), updN_ne (by omega), updN_eq]
  have n3 : f (61 + σ 3) = b := by rw [hf, updN_ne (by omega), updN_eq]
  rw [← hf]
  constructor
  · unfold CS
    rw [e3, e 0 (by omega) (by omega), e 1 (by omega) (by omega), e 2 (by omega) (by omega), e 4 (by omega) (by omega), e 5 (by omega) (by omega), e 6 (by omega) (by omega)]
    refine ⟨h0, h1, h2, rfl, h4, h5, h6, ?_, ?_, ?_⟩
    · intro k hk; rw [e _ (by omega) (by omega)]; exact h7 k hk
    · intro k hk; rw [e _ (by omega) (by omega), updN_ne (by omega)]; exact h8 k hk
    · intro k hk
      unfold vp_updL upd
      by_cases q : k = σ 3
      · rw [if_pos q, if_pos q, if_pos q, if_pos q, q, updN_eq, n1, n2, n3]; exact ⟨rfl, rfl, rfl, rfl⟩
      · rw [if_neg q, if_neg q, if_neg q, if_neg q, updN_ne (by omega), k1 k (by omega) q, k2 k (by omega) q, k3 k (by omega) q]; exact h9 k (by omega)
  · unfold SW
    rw [e3, e 0 (by omega) (by omega), e 1 (by omega) (by omega), e 2 (by omega) (by omega), e 4 (by omega) (by omega), e 5 (by omega) (by omega), e 6 (by omega) (by omega)]
    refine ⟨a0, a1, a2, a3, a4, by omega, ?_, ?_, ?_, ?_, ?_, ?_, a12, a13, a14⟩
    · intro k hk; rw [e _ (by omega) (by omega)]; exact a6 k hk
    · intro k hk
      by_cases q6 : k < 6
      · rw [e _ (by omega) (by omega)]; exact a7 k hk
      · obtain ⟨j, rfl⟩ : ∃ j, k = 6 + j := ⟨k - 6, by omega⟩
        rw [show 43 + (6 + j) = 49 + j by omega]
        by_cases q : j = σ 3
        · rw [q, n1]; omega
        · rw [k1 j (by omega) q]; have := a7 (6 + j) hk; rw [show 43 + (6 + j) = 49 + j by omega] at this; exact this
    · intro k hk
      by_cases q6 : k < 6
      · by_cases q : k = σ 3
        · rw [q, n2]; exact ha
        · rw [k2 k q6 q]; exact a8 k hk
      · obtain ⟨j, rfl⟩ : ∃ j, k = 6 + j := ⟨k - 6, by omega⟩
        rw [show 55 + (6 + j) = 61 + j by omega]
        by_cases q : j = σ 3
        · rw [q, n3]; exact hb
        · rw [k3 j (by omega) q]; have := a8 (6 + j) hk; rw [show 55 + (6 + j) = 61 + j by omega] at this; exact this
    · intro k hk; rw [updN_ne (by omega)]; exact a9 k hk
    · intro k hk
      by_cases q : k = σ 3
      · rw [q, updN_eq]; exact hx
      · rw [updN_ne (by omega)]; exact a10 k (by omega)
    · intro k hk; rw [e _ (by omega) (by omega)]; exact a11 k hk
end Steps
end SeaRel
section LoopRel
theorem skF_le (B : Nat → Nat) (n f p : Nat) (h : p ≤ n) : skF B n f p ≤ n := by
  induction f generalizing p with
  | zero => exact h
  | succ f ih =>
    rw [skF]
    split
    · exact ih (p + 1) (by omega)
    · exact h
theorem rnF_le (B : Nat → Nat) (n f p : Nat) (h : p ≤ n) : rnF B n f p ≤ n := by
  induction f generalizing p with
  | zero => exact h
  | succ f ih =>
    rw [rnF]
    split
    · exact ih (p + 1) (by omega)
    · exact h
theorem tT_ge (B : Nat → Nat) (n m p : Nat) : p ≤ tT B n m p := by
  have h := sk_ge B n p
  have h2 := rn_ge B n (sk B n p)
  unfold tT qT
  split
  · exact h
  · split
    · exact h
    · split <;> omega
theorem tT_le {B : Nat → Nat} {n p : Nat} (m : Nat) (h : p ≤ n) : tT B n m p ≤ n := by
  have h1 : sk B n p ≤ n := skF_le B n _ p h
  have h2 : rn B n (sk B n p) ≤ n := rnF_le B n _ _ h1
  unfold tT qT
  split
  · exact h1
  · split
    · exact h1
    · split <;> omega
theorem tT_gt {B : Nat → Nat} {n m p : Nat} (h0 : tK B n m p ≠ 0) (h1 : tK B n m p ≠ 1) : p + 1 ≤ tT B n m p := by
  have h := sk_ge B n p
  unfold tK qK at h0 h1
  unfold tT qT
  split at h0
  · exact absurd rfl (by rw [if_pos (by assumption)] at h1; exact h1)
  · rename_i hl
    rw [if_neg hl] at h1 ⊢
    split at h0
    · exact absurd rfl h0
    · rename_i hn
      rw [if_neg hn]
      split
      · rename_i ha
        have := rn_gt (B := B) (n := n) (p := sk B n p) (by omega) ha
        omega
      · omega
theorem tW_2 {B : Nat → Nat} {n m p k : Nat} (h : tW B n m p = k) (hk : k < 99) : tK B n m p = 2 := by
  unfold tW at h
  by_cases q : tK B n m p = 2
  · exact q
  · rw [if_neg q] at h; omega
def okN (n p : Nat) (r : LRes) : Prop := isO r = true → p + 1 ≤ lrP r ∧ lrP r ≤ n
theorem okN_e {n p : Nat} (e : Nat × Nat) : okN n p (.error e) := fun h => Bool.noConfusion h
theorem okN_k {n p q : Nat} {σ ν : Nat → Nat} (h1 : p + 1 ≤ q) (h2 : q ≤ n) : okN n p (.ok (q, σ, ν)) := fun _ => ⟨h1, h2⟩
theorem pSize_pos {B : Nat → Nat} {n m p : Nat} {σ ν : Nat → Nat} (h : p + 1 ≤ tT B n m p) (hn : p ≤ n) : okN n p (pSize B n m p σ ν) := by
  have a1 := tT_le (B := B) m hn
  have a2 := tT_ge B n m (tT B n m p)
  have a3 := tT_le (B := B) m a1
  have a4 := tT_ge B n m (tT B n m (tT B n m p))
  have a5 := tT_le (B := B) m a3
  unfold pSize
  split
  · exact okN_e _
  · split
    · exact okN_e _
    · split
      · exact okN_e _
      · exact okN_k (by omega) a5
theorem pThick_pos {B : Nat → Nat} {n m p : Nat} {σ ν : Nat → Nat} (h : p + 1 ≤ tT B n m p) (hn : p ≤ n) : okN n p (pThick B n m p σ ν) := by
  have a1 := tT_le (B := B) m hn
  have a2 := tT_ge B n m (tT B n m p)
  have a3 := tT_le (B := B) m a1
  have a4 := tT_ge B n m (tT B n m (tT B n m p))
  have a5 := tT_le (B := B) m a3
  have a6 := tT_ge B n m (tT B n m (tT B n m (tT B n m p)))
  have a7 := tT_le (B := B) m a5
  unfold pThick
  split
  · exact okN_e _
  · split
    · exact okN_e _
    · exact okN_k (by omega) a7
theorem pLump_pos {B : Nat → Nat} {n m p : Nat} {σ ν : Nat → Nat} (h : p + 1 ≤ tT B n m p) (hn : p ≤ n) : okN n p (pLump B n m p σ ν) := by
  have a1 := tT_le (B := B) m hn
  have a2 := tT_ge B n m (tT B n m p)
  have a3 := tT_le (B := B) m a1
  have a4 := tT_ge B n m (tT B n m (tT B n m p))
  have a5 := tT_le (B := B) m a3
  have a6 := tT_ge B n m (tT B n m (tT B n m (tT B n m p)))
  have a7 := tT_le (B := B) m a5
  unfold pLump
  split
  · exact okN_e _
  · split
    · exact okN_e _
    · split
      · exact okN_e _
      · exact okN_k (by omega) a7
theorem pBoat_pos {B : Nat → Nat} {n m p : Nat} {σ ν : Nat → Nat} (h : p + 1 ≤ tT B n m p) (hn : p ≤ n) : okN n p (pBoat B n m p σ ν) := by
  have a1 := tT_le (B := B) m hn
  have a2 := tT_ge B n m (tT B n m p)
  have a3 := tT_le (B := B) m a1
  have a4 := tT_ge B n m (tT B n m (tT B n m p))
  have a5 := tT_le (B := B) m a3
  have a6 := tT_ge B n m (tT B n m (tT B n m (tT B n m p)))
  have a7 := tT_le (B := B) m a5
  have a8 := tT_ge B n m (tT B n m (tT B n m (tT B n m (tT B n m p))))
  have a9 := tT_le (B := B) m a7
  have a10 := tT_ge B n m (tT B n m (tT B n m (tT B n m (tT B n m (tT B n m p)))))
  have a11 := tT_le (B := B) m a9
  unfold pBoat
  split
  · exact okN_e _
  · split
    · exact okN_e _
    · split
      · exact okN_e _
      · split
        · exact okN_e _
        · split
          · exact okN_e _
          · exact okN_k (by omega) a11
theorem pSet_pos {B : Nat → Nat} {n m p k hi : Nat} {σ ν : Nat → Nat} (h : p + 1 ≤ tT B n m p) (hn : p ≤ n) : okN n p (pSet B n m p σ ν k hi) := by
  have a1 := tT_le (B := B) m hn
  have a2 := tT_ge B n m (tT B n m p)
  have a3 := tT_le (B := B) m a1
  unfold pSet
  split
  · exact okN_e _
  · split
    · exact okN_e _
    · exact okN_k (by omega) a3
theorem pLine_pos {B : Nat → Nat} {n m p : Nat} {σ ν : Nat → Nat} (hn : p ≤ n) : okN n p (pLine B n m p σ ν) := by
  have g : ∀ k, k < 99 → tW B n m p = k → p + 1 ≤ tT B n m p := fun k hk e => by
    have := tW_2 e hk
    exact tT_gt (by omega) (by omega)
  unfold pLine
  split
  · exact pSize_pos (g 0 (by decide) ‹_›) hn
  split
  · exact pThick_pos (g 1 (by decide) ‹_›) hn
  split
  · exact pLump_pos (g 2 (by decide) ‹_›) hn
  split
  · exact pBoat_pos (g 3 (by decide) ‹_›) hn
  split
  · exact pSet_pos (g 4 (by decide) ‹_›) hn
  split
  · exact pSet_pos (g 5 (by decide) ‹_›) hn
  split
  · exact pSet_pos (g 6 (by decide) ‹_›) hn
  · exact okN_e _
section PL
variable {B : Nat → Nat} {n m f p k : Nat} {σ ν : Nat → Nat}
theorem pL_end (h : tK B n m p = 0) : pLoop B n m (f + 1) p σ ν k = .ok (k, σ, ν) := by
  rw [pLoop, if_pos h]
theorem pL_err (h : tK B n m p ≠ 0) (h2 : isO (pLine B n m p σ ν) = false) : pLoop B n m (f + 1) p σ ν k = .error (erA (pLine B n m p σ ν), erB (pLine B n m p σ ν)) := by
  rw [pLoop, if_neg h]
  cases hx : pLine B n m p σ ν with
  | error e => rfl
  | ok v => rw [hx] at h2; exact Bool.noConfusion h2
theorem pL_sgn (h : tK B n m p ≠ 0) (h2 : isO (pLine B n m p σ ν) = true) (h3 : tK B n m (lrP (pLine B n m p σ ν)) ≠ 59) : pLoop B n m (f + 1) p σ ν k = .error (1, tF B n m (lrP (pLine B n m p σ ν))) := by
  rw [pLoop, if_neg h]
  cases hx : pLine B n m p σ ν with
  | error e => rw [hx] at h2; exact Bool.noConfusion h2
  | ok v =>
    rw [hx] at h3
    exact if_pos h3
theorem pL_step (h : tK B n m p ≠ 0) (h2 : isO (pLine B n m p σ ν) = true) (h3 : tK B n m (lrP (pLine B n m p σ ν)) = 59) : pLoop B n m (f + 1) p σ ν k = pLoop B n m f (tT B n m (lrP (pLine B n m p σ ν))) (lrS (pLine B n m p σ ν)) (lrN (pLine B n m p σ ν)) (k + 1) := by
  rw [pLoop, if_neg h]
  cases hx : pLine B n m p σ ν with
  | error e => rw [hx] at h2; exact Bool.noConfusion h2
  | ok v =>
    rw [hx] at h3
    exact if_neg (fun z => z h3)
end PL
theorem tb_all : ∀ x, x < 128 → ((nI x &&& nI 15 = 0 ↔ x % 16 = 0) ∧ (nI x &&& nI 16 = 0 ↔ x / 16 % 2 = 0) ∧ (nI x &&& nI 32 = 0 ↔ x / 32 % 2 = 0) ∧ (nI x &&& nI 64 = 0 ↔ x / 64 % 2 = 0)) := by decide +kernel
theorem tb_or : ∀ x, x < 128 → (nI x ||| nI 1 = nI (x + (1 - x % 2)) ∧ nI x ||| nI 2 = nI (x + 2 * (1 - x / 2 % 2)) ∧ nI x ||| nI 4 = nI (x + 4 * (1 - x / 4 % 2)) ∧ nI x ||| nI 8 = nI (x + 8 * (1 - x / 8 % 2)) ∧ nI x ||| nI 16 = nI (x + 16 * (1 - x / 16 % 2)) ∧ nI x ||| nI 32 = nI (x + 32 * (1 - x / 32 % 2)) ∧ nI x ||| nI 64 = nI (x + 64 * (1 - x / 64 % 2))) := by decide +kernel
theorem SW_fl {σ ν : Nat → Nat} (h : SW σ ν) : ∀ k, k < 7 → σ (100 + k) < 2 := fun k hk => Nat.lt_succ_of_le (h.2.2.2.2.2.2.2.2.2.2.2.1 k hk)
theorem TB_and {x : Int32} {σ ν : Nat → Nat} (h : TB x σ) (hw : SW σ ν) : (x &&& nI 15 = 0 ↔ σ 100 = 0 ∧ σ 101 = 0 ∧ σ 102 = 0 ∧ σ 103 = 0) ∧ (x &&& nI 16 = 0 ↔ σ 104 = 0) ∧ (x &&& nI 32 = 0 ↔ σ 105 = 0) ∧ (x &&& nI 64 = 0 ↔ σ 106 = 0) := by
  have f0 : σ 100 < 2 := SW_fl hw 0 (by decide)
  have f1 : σ 101 < 2 := SW_fl hw 1 (by decide)
  have f2 : σ 102 < 2 := SW_fl hw 2 (by decide)
  have f3 : σ 103 < 2 := SW_fl hw 3 (by decide)
  have f4 : σ 104 < 2 := SW_fl hw 4 (by decide)
  have f5 : σ 105 < 2 := SW_fl hw 5 (by decide)
  have f6 : σ 106 < 2 := SW_fl hw 6 (by decide)
  obtain ⟨o0, o1, o2, o3⟩ := tb_all (σ 100 + 2 * σ 101 + 4 * σ 102 + 8 * σ 103 + 16 * σ 104 + 32 * σ 105 + 64 * σ 106) (by omega)
  rw [h]
  refine ⟨o0.trans ?_, o1.trans ?_, o2.trans ?_, o3.trans ?_⟩ <;> omega
/-- behind a LINE of the word k -/
theorem TB_or {x : Int32} {σ τ ν : Nat → Nat} (h : TB x σ) (hw : SW σ ν) {k : Nat} (hk : k < 7) (e1 : τ (100 + k) = 1) (e2 : ∀ j, j < 7 → j ≠ k → τ (100 + j) = σ (100 + j)) : TB (x ||| nI (2 ^ k)) τ := by
  have f0 : σ 100 < 2 := SW_fl hw 0 (by decide)
  have f1 : σ 101 < 2 := SW_fl hw 1 (by decide)
  have f2 : σ 102 < 2 := SW_fl hw 2 (by decide)
  have f3 : σ 103 < 2 := SW_fl hw 3 (by decide)
  have f4 : σ 104 < 2 := SW_fl hw 4 (by decide)
  have f5 : σ 105 < 2 := SW_fl hw 5 (by decide)
  have f6 : σ 106 < 2 := SW_fl hw 6 (by decide)
  obtain ⟨o0, o1, o2, o3, o4, o5, o6⟩ := tb_or (σ 100 + 2 * σ 101 + 4 * σ 102 + 8 * σ 103 + 16 * σ 104 + 32 * σ 105 + 64 * σ 106) (by omega)
  have q : k = 0 ∨ k = 1 ∨ k = 2 ∨ k = 3 ∨ k = 4 ∨ k = 5 ∨ k = 6 := by omega
  unfold TB
  rw [h]
  rcases q with rfl | rfl | rfl | rfl | rfl | rfl | rfl
  · have g9 : τ 100 = 1 := e1
    have g1 : τ 101 = σ 101 := e2 1 (by decide) (by decide)
    have g2 : τ 102 = σ 102 := e2 2 (by decide) (by decide)
    have g3 : τ 103 = σ 103 := e2 3 (by decide) (by decide)
    have g4 : τ 104 = σ 104 := e2 4 (by decide) (by decide)
    have g5 : τ 105 = σ 105 := e2 5 (by decide) (by decide)
    have g6 : τ 106 = σ 106 := e2 6 (by decide) (by decide)
    rw [show 2 ^ 0 = 1 by decide, o0]; exact congrArg nI (by omega)
  · have g9 : τ 101 = 1 := e1
    have g0 : τ 100 = σ 100 := e2 0 (by decide) (by decide)
    have g2 : τ 102 = σ 102 := e2 2 (by decide) (by decide)
    have g3 : τ 103 = σ 103 := e2 3 (by decide) (by decide)
    have g4 : τ 104 = σ 104 := e2 4 (by decide) (by decide)
    have g5 : τ 105 = σ 105 := e2 5 (by decide) (by decide)
    have g6 : τ 106 = σ 106 := e2 6 (by decide) (by decide)
    rw [show 2 ^ 1 = 2 by decide, o1]; exact congrArg nI (by omega)
  · have g9 : τ 102 = 1 := e1
    have g0 : τ 100 = σ 100 := e2 0 (by decide) (by decide)
    have g1 : τ 101 = σ 101 := e2 1 (by decide) (by decide)
    have g3 : τ 103 = σ 103 := e2 3 (by decide) (by decide)
    have g4 : τ 104 = σ 104 := e2 4 (by decide) (by decide)
    have g5 : τ 105 = σ 105 := e2 5 (by decide) (by decide)
    have g6 : τ 106 = σ 106 := e2 6 (by decide) (by decide)
    rw [show 2 ^ 2 = 4 by decide, o2]; exact congrArg nI (by omega)
  · have g9 : τ 103 = 1 := e1
    have g0 : τ 100 = σ 100 := e2 0 (by decide) (by decide)
    have g1 : τ 101 = σ 101 := e2 1 (by decide) (by decide)
    have g2 : τ 102 = σ 102 := e2 2 (by decide) (by decide)
    have g4 : τ 104 = σ 104 := e2 4 (by decide) (by decide)
    have g5 : τ 105 = σ 105 := e2 5 (by decide) (by decide)
    have g6 : τ 106 = σ 106 := e2 6 (by decide) (by decide)
    rw [show 2 ^ 3 = 8 by decide, o3]; exact congrArg nI (by omega)
  · have g9 : τ 104 = 1 := e1
    have g0 : τ 100 = σ 100 := e2 0 (by decide) (by decide)
    have g1 : τ 101 = σ 101 := e2 1 (by decide) (by decide)
    have g2 : τ 102 = σ 102 := e2 2 (by decide) (by decide)
    have g3 : τ 103 = σ 103 := e2 3 (by decide) (by decide)
    have g5 : τ 105 = σ 105 := e2 5 (by decide) (by decide)
    have g6 : τ 106 = σ 106 := e2 6 (by decide) (by decide)
    rw [show 2 ^ 4 = 16 by decide, o4]; exact congrArg nI (by omega)
  · have g9 : τ 105 = 1 := e1
    have g0 : τ 100 = σ 100 := e2 0 (by decide) (by decide)
    have g1 : τ 101 = σ 101 := e2 1 (by decide) (by decide)
    have g2 : τ 102 = σ 102 := e2 2 (by decide) (by decide)
    have g3 : τ 103 = σ 103 := e2 3 (by decide) (by decide)
    have g4 : τ 104 = σ 104 := e2 4 (by decide) (by decide)
    have g6 : τ 106 = σ 106 := e2 6 (by decide) (by decide)
    rw [show 2 ^ 5 = 32 by decide, o5]; exact congrArg nI (by omega)
  · have g9 : τ 106 = 1 := e1
    have g0 : τ 100 = σ 100 := e2 0 (by decide) (by decide)
    have g1 : τ 101 = σ 101 := e2 1 (by decide) (by decide)
    have g2 : τ 102 = σ 102 := e2 2 (by decide) (by decide)
    have g3 : τ 103 = σ 103 := e2 3 (by decide) (by decide)
    have g4 : τ 104 = σ 104 := e2 4 (by decide) (by decide)
    have g5 : τ 105 = σ 105 := e2 5 (by decide) (by decide)
    rw [show 2 ^ 6 = 64 by decide, o6]; exact congrArg nI (by omega)
end LoopRel
section TextRel
theorem rnF_al (B : Nat → Nat) (n f p j : Nat) (h1 : p ≤ j) (h2 : j < rnF B n f p) : cAl (B j) := by
  induction f generalizing p with
  | zero => rw [rnF] at h2; omega
  | succ f ih =>
    rw [rnF] at h2
    split at h2
    · rename_i h
      by_cases e : j = p
      · rw [e]; exact h.2
      · exact ih (p + 1) (by omega) h2
    · omega
theorem dcn_0 {B : Nat → Nat} {p k : Nat} (h : dcn B p k = 0) {j : Nat} (hj : j < k) : ¬ cDi (B (p + j)) := by
  induction k with
  | zero => omega
  | succ k ih =>
    intro hc
    by_cases e : j = k
    · rw [e] at hc
      rw [dcn_y hc] at h
      omega
    · have := dcn_le B p k
      rw [dcn] at h
      exact ih (by omega) (by omega) hc
theorem tC_GN {B : Nat → Nat} {n m p : Nat} (h : tK B n m p = 2) : GN (tC B n p) := by
  unfold tK qK at h
  split at h
  · omega
  · split at h
    · omega
    · split at h
      · split at h
        · rename_i hd
          refine ⟨B, sk B n p, rn B n (sk B n p) - sk B n p, hd.2, ?_, rfl⟩
          intro j hj
          have a := rnF_al B n (n - sk B n p) (sk B n p) (sk B n p + j) (by omega) (by show _ < rn B n (sk B n p); omega)
          have b := dcn_0 hd.1 hj
          unfold cAl at a
          exact a.resolve_right b
        · split at h <;> omega
      · split at h
        · rename_i hs
          unfold cSg at hs
          omega
        · omega
theorem RT_w {bt : Nat → Nat} {n m p bg pl : Nat} {kind word num : Int32} {lets : Int64} (h : RT bt n m p kind bg pl word num lets) {k : Nat} (hk : k < 99) : word = nI k ↔ tW bt n m p = k := by
  have hw := wix_le (tC bt n p)
  unfold tW
  rcases h.2.2.2.1 with ⟨h1, h2⟩ | ⟨h1, h2⟩
  · rw [h2]
    unfold tW
    rw [if_pos h1, ia_eq, ia_n _ (by omega), ia_n _ (by omega)]
    omega
  · rw [if_neg h1, h2, ia_eq, ia_m1, ia_n _ (by omega)]
    omega
section N
variable {σ ν : Nat → Nat} {wide high lumps boats : Nat} {heat cools skin : Int32} {th lc bc ld sp : Nat → Int32} {ln bn : Nat → Int64}
theorem nm_l (h : CS σ ν wide high heat cools skin lumps boats th ln lc bn bc ld sp) (hw : SW σ ν) {x : Nat} (hx : GN x) : hasJ lumps ln (Int64.ofNat x) ↔ isFd ν 0 (σ 2) x := by
  obtain ⟨h0, h1, h2, h3, h4, h5, h6, h7, h8, h9⟩ := h
  have g := hw.2.2.2.2.2.2.2.2.2.1
  subst h2
  unfold hasJ isFd
  constructor
  · rintro ⟨j, hj, e⟩
    refine ⟨j, hj, ?_⟩
    rw [(h8 j hj).1] at e
    rw [Nat.zero_add]
    exact (N8_eq (g j hj) hx).mp e
  · rintro ⟨j, hj, e⟩
    rw [Nat.zero_add] at e
    exact ⟨j, hj, by rw [(h8 j hj).1, e]⟩
theorem nm_b (h : CS σ ν wide high heat cools skin lumps boats th ln lc bn bc ld sp) (hw : SW σ ν) {x : Nat} (hx : GN x) : hasJ boats bn (Int64.ofNat x) ↔ isFd ν 6 (σ 3) x := by
  obtain ⟨h0, h1, h2, h3, h4, h5, h6, h7, h8, h9⟩ := h
  have g := hw.2.2.2.2.2.2.2.2.2.2.1
  subst h3
  unfold hasJ isFd
  constructor
  · rintro ⟨j, hj, e⟩
    refine ⟨j, hj, ?_⟩
    rw [(h9 j hj).1] at e
    exact (N8_eq (g j hj) hx).mp e
  · rintro ⟨j, hj, e⟩
    exact ⟨j, hj, by rw [(h9 j hj).1, e]⟩
theorem lc_has (h : CS σ ν wide high heat cools skin lumps boats th ln lc bn bc ld sp) (hw : SW σ ν) {c : Nat} (hc : c < 36) : hasI lumps lc (nI c) ↔ isFd σ 43 (σ 2) c := by
  obtain ⟨h0, h1, h2, h3, h4, h5, h6, h7, h8, h9⟩ := h
  have g := hw.2.2.2.2.2.2.2.1
  have l6 : σ 2 ≤ 6 := hw.2.2.2.2.1
  subst h2
  unfold hasI isFd
  constructor
  · rintro ⟨j, hj, e⟩
    refine ⟨j, hj, ?_⟩
    have := g j (by omega)
    rw [(h8 j hj).2, ia_eq, ia_n _ (by omega), ia_n _ (by omega)] at e
    omega
  · rintro ⟨j, hj, e⟩
    exact ⟨j, hj, by rw [(h8 j hj).2, e]⟩
theorem th_has (h : CS σ ν wide high heat cools skin lumps boats th ln lc bn bc ld sp) (hw : SW σ ν) {c : Nat} (hc : c < 36) : 0 < (th c).toInt ↔ σ (7 + c) ≠ 0 := by
  have g := hw.2.2.2.2.2.2.1 c hc
  rw [h.2.2.2.2.2.2.2.1 c hc, ia_n _ (by omega)]
  omega
end N
theorem hasJ_fst {n : Nat} {f : Nat → Int64} {x : Int64} {k : Nat} (hk : k < n) (h : fstJ f x k) : hasJ n f x := ⟨k, hk, h.1⟩
def FLG (k : Nat) (σ τ : Nat → Nat) : Prop := τ (100 + k) = 1 ∧ ∀ j, j < 7 → j ≠ k → τ (100 + j) = σ (100 + j)
section L
variable {B : Nat → Nat} {n m p k : Nat} {σ ν : Nat → Nat} {e : Nat × Nat}
theorem cell_e1 (h : pNum B n m 0 (σ 0 - 1) p = .error e) : pCell B n m σ k p = .error e := by unfold pCell; rw [h]
theorem cell_e2 {x : Nat} (h1 : pNum B n m 0 (σ 0 - 1) p = .ok x) (h2 : pNum B n m 0 (σ 1 - 1) (tT B n m p) = .error e) : pCell B n m σ k p = .error e := by unfold pCell; rw [h1]; dsimp only; rw [h2]
theorem cell_e3 {x y : Nat} (h1 : pNum B n m 0 (σ 0 - 1) p = .ok x) (h2 : pNum B n m 0 (σ 1 - 1) (tT B n m p) = .ok y) (h3 : (k = 1 ∧ σ (7 + (6 * y + x)) ≠ 0) ∨ (k = 2 ∧ isFd σ 43 (σ 2) (6 * y + x))) : pCell B n m σ k p = .error (3, tF B n m (tT B n m p)) := by unfold pCell; rw [h1]; dsimp only; rw [h2]; dsimp only; rw [if_pos h3]
theorem cell_ok {x y : Nat} (h1 : pNum B n m 0 (σ 0 - 1) p = .ok x) (h2 : pNum B n m 0 (σ 1 - 1) (tT B n m p) = .ok y) (h3 : ¬ ((k = 1 ∧ σ (7 + (6 * y + x)) ≠ 0) ∨ (k = 2 ∧ isFd σ 43 (σ 2) (6 * y + x)))) : pCell B n m σ k p = .ok (6 * y + x) := by unfold pCell; rw [h1]; dsimp only; rw [h2]; dsimp only; rw [if_neg h3]
theorem name_e1 (h : tW B n m p ≠ 31) : pName B n m σ ν p = .error (1, tF B n m p) := by unfold pName; rw [if_pos h]
theorem name_e3 (h : tW B n m p = 31) (h2 : isFd ν 0 (σ 2) (tC B n p) ∨ isFd ν 6 (σ 3) (tC B n p)) : pName B n m σ ν p = .error (3, tF B n m p) := by unfold pName; rw [if_neg (fun z => z h), if_pos h2]
theorem name_ok (h : tW B n m p = 31) (h2 : ¬ (isFd ν 0 (σ 2) (tC B n p) ∨ isFd ν 6 (σ 3) (tC B n p))) : pName B n m σ ν p = .ok (tC B n p) := by unfold pName; rw [if_neg (fun z => z h), if_neg h2]
theorem size_e3 (h : σ 100 ≠ 0 ∨ σ 101 ≠ 0 ∨ σ 102 ≠ 0 ∨ σ 103 ≠ 0) : pSize B n m p σ ν = .error (3, tF B n m p) := by unfold pSize; rw [if_pos h]
theorem size_e1 (h : ¬ (σ 100 ≠ 0 ∨ σ 101 ≠ 0 ∨ σ 102 ≠ 0 ∨ σ 103 ≠ 0)) (h1 : pNum B n m 2 6 (tT B n m p) = .error e) : pSize B n m p σ ν = .error e := by unfold pSize; rw [if_neg h, h1]
theorem size_e2 {w : Nat} (h : ¬ (σ 100 ≠ 0 ∨ σ 101 ≠ 0 ∨ σ 102 ≠ 0 ∨ σ 103 ≠ 0)) (h1 : pNum B n m 2 6 (tT B n m p) = .ok w) (h2 : pNum B n m 2 6 (tT B n m (tT B n m p)) = .error e) : pSize B n m p σ ν = .error e := by unfold pSize; rw [if_neg h, h1]; dsimp only; rw [h2]
theorem size_ok {w k : Nat} (h : ¬ (σ 100 ≠ 0 ∨ σ 101 ≠ 0 ∨ σ 102 ≠ 0 ∨ σ 103 ≠ 0)) (h1 : pNum B n m 2 6 (tT B n m p) = .ok w) (h2 : pNum B n m 2 6 (tT B n m (tT B n m p)) = .ok k) : pSize B n m p σ ν = .ok (tT B n m (tT B n m (tT B n m p)), updN (updN (updN σ 0 w) 1 k) 100 1, ν) := by unfold pSize; rw [if_neg h, h1]; dsimp only; rw [h2]
theorem set_e3 {hi : Nat} (h : σ (100 + k) ≠ 0) : pSet B n m p σ ν k hi = .error (3, tF B n m p) := by unfold pSet; rw [if_pos h]
theorem set_e1 {hi : Nat} (h : ¬ σ (100 + k) ≠ 0) (h1 : pNum B n m 0 hi (tT B n m p) = .error e) : pSet B n m p σ ν k hi = .error e := by unfold pSet; rw [if_neg h, h1]
theorem set_ok {hi v : Nat} (h : ¬ σ (100 + k) ≠ 0) (h1 : pNum B n m 0 hi (tT B n m p) = .ok v) : pSet B n m p σ ν k hi = .ok (tT B n m (tT B n m p), updN (updN σ k v) (100 + k) 1, ν) := by unfold pSet; rw [if_neg h, h1]
theorem thick_e1 (h1 : pCell B n m σ 1 (tT B n m p) = .error e) : pThick B n m p σ ν = .error e := by unfold pThick; rw [h1]
theorem thick_e2 {c : Nat} (h1 : pCell B n m σ 1 (tT B n m p) = .ok c) (h2 : pNum B n m 1 9 (tT B n m (tT B n m (tT B n m p))) = .error e) : pThick B n m p σ ν = .error e := by unfold pThick; rw [h1]; dsimp only; rw [h2]
theorem thick_ok {c t : Nat} (h1 : pCell B n m σ 1 (tT B n m p) = .ok c) (h2 : pNum B n m 1 9 (tT B n m (tT B n m (tT B n m p))) = .ok t) : pThick B n m p σ ν = .ok (tT B n m (tT B n m (tT B n m (tT B n m p))), updN (updN σ (7 + c) t) 101 1, ν) := by unfold pThick; rw [h1]; dsimp only; rw [h2]
theorem lump_e4 (h : 6 ≤ σ 2) : pLump B n m p σ ν = .error (4, tF B n m p) := by unfold pLump; rw [if_pos h]
theorem lump_e1 (h : ¬ 6 ≤ σ 2) (h1 : pName B n m σ ν (tT B n m p) = .error e) : pLump B n m p σ ν = .error e := by unfold pLump; rw [if_neg h, h1]
theorem lump_e2 {x : Nat} (h : ¬ 6 ≤ σ 2) (h1 : pName B n m σ ν (tT B n m p) = .ok x) (h2 : pCell B n m σ 2 (tT B n m (tT B n m p)) = .error e) : pLump B n m p σ ν = .error e := by unfold pLump; rw [if_neg h, h1]; dsimp only; rw [h2]
theorem lump_ok {x c : Nat} (h : ¬ 6 ≤ σ 2) (h1 : pName B n m σ ν (tT B n m p) = .ok x) (h2 : pCell B n m σ 2 (tT B n m (tT B n m p)) = .ok c) : pLump B n m p σ ν = .ok (tT B n m (tT B n m (tT B n m (tT B n m p))), updN (updN (updN σ (43 + σ 2) c) 2 (σ 2 + 1)) 102 1, updN ν (σ 2) x) := by unfold pLump; rw [if_neg h, h1]; dsimp only; rw [h2]
theorem boat_e4 (h : 6 ≤ σ 3) : pBoat B n m p σ ν = .error (4, tF B n m p) := by unfold pBoat; rw [if_pos h]
theorem boat_e1 (h : ¬ 6 ≤ σ 3) (h1 : pName B n m σ ν (tT B n m p) = .error e) : pBoat B n m p σ ν = .error e := by unfold pBoat; rw [if_neg h, h1]
theorem boat_e2 {x : Nat} (h : ¬ 6 ≤ σ 3) (h1 : pName B n m σ ν (tT B n m p) = .ok x) (h2 : pCell B n m σ 3 (tT B n m (tT B n m p)) = .error e) : pBoat B n m p σ ν = .error e := by unfold pBoat; rw [if_neg h, h1]; dsimp only; rw [h2]
theorem boat_e3 {x c : Nat} (h : ¬ 6 ≤ σ 3) (h1 : pName B n m σ ν (tT B n m p) = .ok x) (h2 : pCell B n m σ 3 (tT B n m (tT B n m p)) = .ok c) (h3 : pNum B n m 0 9 (tT B n m (tT B n m (tT B n m (tT B n m p)))) = .error e) : pBoat B n m p σ ν = .error e := by unfold pBoat; rw [if_neg h, h1]; dsimp only; rw [h2]; dsimp only; rw [h3]
theorem boat_e5 {x c a : Nat} (h : ¬ 6 ≤ σ 3) (h1 : pName B n m σ ν (tT B n m p) = .ok x) (h2 : pCell B n m σ 3 (tT B n m (tT B n m p)) = .ok c) (h3 : pNum B n m 0 9 (tT B n m (tT B n m (tT B n m (tT B n m p)))) = .ok a) (h4 : pNum B n m 1 9 (tT B n m (tT B n m (tT B n m (tT B n m (tT B n m p))))) = .error e) : pBoat B n m p σ ν = .error e := by unfold pBoat; rw [if_neg h, h1]; dsimp only; rw [h2]; dsimp only; rw [h3]; dsimp only; rw [h4]
theorem boat_ok {x c a b : Nat} (h : ¬ 6 ≤ σ 3) (h1 : pName B n m σ ν (tT B n m p) = .ok x) (h2 : pCell B n m σ 3 (tT B n m (tT B n m p)) = .ok c) (h3 : pNum B n m 0 9 (tT B n m (tT B n m (tT B n m (tT B n m p)))) = .ok a) (h4 : pNum B n m 1 9 (tT B n m (tT B n m (tT B n m (tT B n m (tT B n m p))))) = .ok b) : pBoat B n m p σ ν = .ok (tT B n m (tT B n m (tT B n m (tT B n m (tT B n m (tT B n m p))))), updN (updN (updN (updN (updN σ (49 + σ 3) c) (55 + σ 3) a) (61 + σ 3) b) 3 (σ 3 + 1)) 103 1, updN ν (6 + σ 3) x) := by unfold pBoat; rw [if_neg h, h1]; dsimp only; rw [h2]; dsimp only; rw [h3]; dsimp only; rw [h4]
theorem isE {α : Type} {X : Except (Nat × Nat) α} (h : isO X = false) : X = .error (erA X, erB X) := by
  cases X with
  | error e => rfl
  | ok v => exact Bool.noConfusion h
end L
end TextRel
theorem lg0 (a b : Int64) : lg_cmp a b = 0 ↔ a = b := by
  unfold lg_cmp
  constructor
  · intro h
    split at h
    · exact absurd h (by decide)
    · split at h
      · assumption
      · exact absurd h (by decide)
  · intro h
    subst h
    rw [if_neg (fun z => Int64.lt_irrefl z), if_pos rfl]
set_option maxRecDepth 20000 in
theorem lf_f_lumpNamed_1 (lumps : Nat) (lumpNamesF : Nat → Int64) (name : Int64) (k5 : Nat) (n8 : Nat) (iv_a_4 : lumps ≤ 6) (j6 : k5 ≤ 6) (jN : ∀ j, j < k5 → lumpNamesF j ≠ name) (hm10 : 6 - k5 < n8 + 1) (c11 : lumps ≤ k5) : ¬ hasJ lumps lumpNamesF name := by
  rintro ⟨j, hj, e⟩
  exact jN j (by omega) e
set_option maxRecDepth 20000 in
theorem lf_f_lumpNamed_2 (lumps : Nat) (lumpNamesF : Nat → Int64) (name : Int64) (k5 : Nat) (n8 : Nat) (y12 : Int64) (y14 : Int32) (iv_a_4 : lumps ≤ 6) (j6 : k5 ≤ 6) (jN : ∀ j, j < k5 → lumpNamesF j ≠ name) (hm10 : 6 - k5 < n8 + 1) (c11 : k5 < lumps) (e13 : y12 = lumpNamesF k5) (e15 : y14 = lg_cmp y12 name) (c16 : y14 ≠ 0) : (k5 + 1) ≤ 6 := by
  have b_y14 := ia_b y14
  have b_name := Int64.toInt_lt name
  have b_y12 := Int64.toInt_lt y12
  try simp only [ia_lt, ia_le, ia_eq, ia_m1, ia_0, ia_1, ne_eq, true_and, and_true, false_and, and_false, or_false, false_or, or_true, true_or, not_true_eq_false, not_false_eq_true] at *
  all_goals omega
set_option maxRecDepth 20000 in
theorem lf_f_lumpNamed_3 (lumps : Nat) (lumpNamesF : Nat → Int64) (name : Int64) (k5 : Nat) (n8 : Nat) (y12 : Int64) (y14 : Int32) (iv_a_4 : lumps ≤ 6) (j6 : k5 ≤ 6) (jN : ∀ j, j < k5 → lumpNamesF j ≠ name) (hm10 : 6 - k5 < n8 + 1) (c11 : k5 < lumps) (e13 : y12 = lumpNamesF k5) (e15 : y14 = lg_cmp y12 name) (c16 : y14 ≠ 0) : ∀ j, j < (k5 + 1) → lumpNamesF j ≠ name := by
  intro j hj
  by_cases q : j = k5
  · rw [q]
    subst_vars
    exact fun z => absurd ((lg0 _ _).mpr z) ‹_›
  · exact jN j (by omega)
set_option maxRecDepth 20000 in
theorem lf_f_lumpNamed_4 (lumps : Nat) (lumpNamesF : Nat → Int64) (name : Int64) (k5 : Nat) (n8 : Nat) (y12 : Int64) (y14 : Int32) (iv_a_4 : lumps ≤ 6) (j6 : k5 ≤ 6) (jN : ∀ j, j < k5 → lumpNamesF j ≠ name) (hm10 : 6 - k5 < n8 + 1) (c11 : k5 < lumps) (e13 : y12 = lumpNamesF k5) (e15 : y14 = lg_cmp y12 name) (c16 : y14 ≠ 0) : 6 - (k5 + 1) < n8 := by
  have b_y14 := ia_b y14
  have b_name := Int64.toInt_lt name
  have b_y12 := Int64.toInt_lt y12
  try simp only [ia_lt, ia_le, ia_eq, ia_m1, ia_0, ia_1, ne_eq, true_and, and_true, false_and, and_false, or_false, false_or, or_true, true_or, not_true_eq_false, not_false_eq_true] at *
  all_goals omega
set_option maxRecDepth 20000 in
theorem lf_f_lumpNamed_5 (lumps : Nat) (lumpNamesF : Nat → Int64) (name : Int64) (k5 : Nat) (n8 : Nat) (y12 : Int64) (y14 : Int32) (iv_a_4 : lumps ≤ 6) (j6 : k5 ≤ 6) (jN : ∀ j, j < k5 → lumpNamesF j ≠ name) (hm10 : 6 - k5 < n8 + 1) (c11 : k5 < lumps) (e13 : y12 = lumpNamesF k5) (e15 : y14 = lg_cmp y12 name) (c16 : y14 = 0) : k5 < lumps ∧ fstJ lumpNamesF name k5 := by
  subst_vars
  exact ⟨by omega, (lg0 _ _).mp (by first | assumption | exact Eq.symm (by assumption)), jN⟩
set_option maxRecDepth 20000 in
theorem lf_f_lumpNamed_6   : 0 ≤ 6 := by
  try simp only [ia_lt, ia_le, ia_eq, ia_m1, ia_0, ia_1, ne_eq, true_and, and_true, false_and, and_false, or_false, false_or, or_true, true_or, not_true_eq_false, not_false_eq_true] at *
  all_goals omega
set_option maxRecDepth 20000 in
theorem lf_f_lumpNamed_7 (lumpNamesF : Nat → Int64) (name : Int64)  : ∀ j, j < 0 → lumpNamesF j ≠ name := by
  intro j hj; exact absurd hj (Nat.not_lt_zero j)
set_option maxHeartbeats 4000000 in
set_option maxRecDepth 100000 in
theorem c_f_lumpNamed (l : Launch) (dC : Nat → ClassId) (dI : Nat → Nat → Nat) (ky : Nat → ClassId) (a : Nat) (wide : Nat) (high : Nat) (heat : Int32) (cools : Int32) (skinHeat : Int32) (today : Int32) (stirs : Int32) (steps : Int32) (lumps : Nat) (boats : Nat) (thickness : Nat) (lumpNames : Nat) (lumpCells : Nat) (boatNames : Nat) (boatCells : Nat) (loads : Nat) (spoons : Nat) (spoonsLeft : Nat) (depths : Nat) (lumpNamesF : Nat → Int64) (name : Int64) (iv_a_0 : 2 ≤ wide) (iv_a_1 : wide ≤ 6) (iv_a_2 : 2 ≤ high) (iv_a_3 : high ≤ 6) (iv_a_4 : lumps ≤ 6) (iv_a_5 : boats ≤ 6) : Met l yX7_lumpNamed wsX7_lumpNamed ({ frames := 0, cells := 0, slots := 0, locals := 0 }) (PcP dC dI ky [.ref a, .long name] [(a, .inr (7, [.int (nI wide), .int (nI high), .int heat, .int cools, .int skinHeat, .int today, .int stirs, .int steps, .int (nI lumps), .int (nI boats), .ref thickness, .ref lumpNames, .ref lumpCells, .ref boatNames, .ref boatCells, .ref loads, .ref spoons, .ref spoonsLeft, .ref depths])), (lumpNames, .inl (ky 1, 6, .inr (.inl lumpNamesF)))]) (vp_Si (fun r : Int32 => (r = (-1 : Int32) ∧ (¬ hasJ lumps lumpNamesF name)) ∨ (∃ k9 : Nat, (k9 < lumps ∧ fstJ lumpNamesF name k9) ∧ r = nI k9))) 0 0 (fun _ => False) := by
  refine Met.ofW (cc := cX7_lumpNamed) (maxL := 4) (ret := (some .int)) (by decide) rfl ?_
  intro p e s m args below meth c s₁ B hml hv
  obtain ⟨rfl, hP, hK⟩ := hv
  have hx := B.exec
  have hb := B.bytes
  have hr := B.returns
  have hts := atoms_spec (ws := wsX7_lumpNamed) B.pre
  have hown : s.vm.findClass RX7 = some m.cls := findClass_of_methodNamed B.named
  have hlocks := B.notSynchronized
  have hin7 : ∀ w ∈ u_ws RX7 TX7 19, w ∈ wsX7_lumpNamed := by decide +kernel
  have hl := lv_entry ([.ref a, .long name]) (n := 4) (Nat.le_of_ble_eq_true rfl)
  rw [lg_entry_eq]
  generalize (lg_sl ([.ref a, .long name]) ++ List.replicate (4 - (lg_sl ([.ref a, .long name])).length) Slot.unset).toArray = ls at hl ⊢
  have hl : lv_has ls 4 [(0, .ref a), (1, .long name)] := hl
  refine q_name (fun Q hQ => ?_)
  generalize ([.ref a, .long name] : List Value).toArray = args at hts hQ ⊢
  refine lv_iconst (v := nI 0) hx hb dX7_lumpNamed_0 (by decide) ?_
  refine lv_istore_n (lv' := [(3, .int (nI 0)), (0, .ref a), (1, .long name)]) hx hb dX7_lumpNamed_1 rfl hl (by decide) rfl (fun ls hl => ?_)
  have hL7 : ∀ (n8 : Nat) (k5 : Nat), (k5 ≤ 6) → (∀ j, j < k5 → lumpNamesF j ≠ name) → 6 - k5 < n8 → ∀ (ls : Array Slot), lv_has ls 4 [(3, .int (nI k5)), (0, .ref a), (1, .long name)] → W p l e (headSpec wsX7_lumpNamed ({ frames := 0, cells := 0, slots := 0, locals := 0 })).room s m args below meth c s.heap [] 0 0 Q (F0 m 2 ls []) := by
    intro n8
    induction n8 with
    | zero => intro k5 _ _ h9; exact absurd h9 (Nat.not_lt_zero _)
    | succ n8 ih9 =>
      intro k5 j6 jN hm10 ls hl
      refine lv_iload_n hx hb dX7_lumpNamed_2 rfl (lv_at hl 0 rfl) ?_
      refine lv_aload_n hx hb dX7_lumpNamed_3 rfl (lv_at hl 1 rfl) ?_
      refine va_get (D := (dC, dI)) (ci := 7) (v := .int (nI lumps)) (C := RX7) (T := TX7) (N := 19) hx hb hts hin7 hown hK hP 0 rfl rfl 8 (by decide) (hts (.fieldLink RX7 68 "PorridgeSea$Sea" "lumps" "I") (List.mem_of_getElem? (i := 1) rfl)) (fun _ h9 => h9) rfl dX7_lumpNamed_4 ?_
      refine n_icmp_ge (x := k5) (y := lumps) (tgt := 29) hx hb (by omega) (by omega) dX7_lumpNamed_7 (by decide) (fun c11 => ?_) (fun c11 => ?_)
      · refine lv_iconst (v := (-1 : Int32)) hx hb dX7_lumpNamed_29 (by decide) ?_
        rw [hQ]
        exact W.iret (v := (-1 : Int32)) hx hb hr (fun t9 ht9 hW9 => ⟨(-1 : Int32), rfl, (Or.inl ⟨rfl, (lf_f_lumpNamed_1 lumps lumpNamesF name k5 n8 iv_a_4 j6 jN hm10 c11)⟩), ht9⟩) (fun _ h => absurd h List.not_mem_nil) dX7_lumpNamed_30
      · refine lv_aload_n hx hb dX7_lumpNamed_10 rfl (lv_at hl 1 rfl) ?_
        refine va_get (D := (dC, dI)) (ci := 7) (v := .ref lumpNames) (C := RX7) (T := TX7) (N := 19) hx hb hts hin7 hown hK hP 0 rfl rfl 11 (by decide) (hts (.fieldLink RX7 15 "PorridgeSea$Sea" "lumpNames" "[J") (List.mem_of_getElem? (i := 2) rfl)) (fun _ h9 => h9) rfl dX7_lumpNamed_11 ?_
        refine lv_iload_n hx hb dX7_lumpNamed_14 rfl (lv_at hl 0 rfl) ?_
        obtain ⟨y12, e13⟩ : ∃ z9, z9 = lumpNamesF k5 := ⟨_, rfl⟩
        refine r_lald hx hb hK hP 1 rfl k5 (by omega) (by decide) y12 e13.symm dX7_lumpNamed_15 ?_
        refine lv_lload_n hx hb dX7_lumpNamed_16 rfl (lv_at hl 2 rfl) ?_
        refine W.lcmp hx hb dX7_lumpNamed_17 ?_
        refine lv_topi (fun y14 e15 => ?_)
        refine lv_if_ne (tgt := 23) hx hb dX7_lumpNamed_18 (by decide) (fun c16 => ?_) (fun c16 => ?_)
        · refine lv_iinc (v := nI (k5 + 1)) (lv' := [(3, .int (nI (k5 + 1))), (0, .ref a), (1, .long name)]) hx hb dX7_lumpNamed_23 hl (k := 0) rfl (show nI k5 + nI 1 = nI (k5 + 1) from nI_add _ _) (by decide) rfl (fun ls hl => ?_)
          refine lv_goto (tgt := 2) hx hb dX7_lumpNamed_26 (by decide) ?_
          exact ih9 (k5 + 1) (lf_f_lumpNamed_2 lumps lumpNamesF name k5 n8 y12 y14 iv_a_4 j6 jN hm10 c11 e13 e15 c16) (lf_f_lumpNamed_3 lumps lumpNamesF name k5 n8 y12 y14 iv_a_4 j6 jN hm10 c11 e13 e15 c16) (lf_f_lumpNamed_4 lumps lumpNamesF name k5 n8 y12 y14 iv_a_4 j6 jN hm10 c11 e13 e15 c16) _ (lv_sub hl [0, 1, 2] rfl)
        · refine lv_iload_n hx hb dX7_lumpNamed_21 rfl (lv_at hl 0 rfl) ?_
          rw [hQ]
          exact W.iret (v := nI k5) hx hb hr (fun t9 ht9 hW9 => ⟨nI k5, rfl, (Or.inr ⟨k5, (lf_f_lumpNamed_5 lumps lumpNamesF name k5 n8 y12 y14 iv_a_4 j6 jN hm10 c11 e13 e15 c16), rfl⟩), ht9⟩) (fun _ h => absurd h List.not_mem_nil) dX7_lumpNamed_22
  exact hL7 ((6 - 0) + 1) 0 (lf_f_lumpNamed_6) (lf_f_lumpNamed_7 lumpNamesF name) (Nat.lt_succ_self _) _ (lv_sub hl [0, 1, 2] rfl)
set_option maxRecDepth 20000 in
theorem lf_f_boatNamed_1 (boats : Nat) (boatNamesF : Nat → Int64) (name : Int64) (k5 : Nat) (n8 : Nat) (iv_a_5 : boats ≤ 6) (j6 : k5 ≤ 6) (jN : ∀ j, j < k5 → boatNamesF j ≠ name) (hm10 : 6 - k5 < n8 + 1) (c11 : boats ≤ k5) : ¬ hasJ boats boatNamesF name := by
  rintro ⟨j, hj, e⟩
  exact jN j (by omega) e
set_option maxRecDepth 20000 in
theorem lf_f_boatNamed_2 (boats : Nat) (boatNamesF : Nat → Int64) (name : Int64) (k5 : Nat) (n8 : Nat) (y12 : Int64) (y14 : Int32) (iv_a_5 : boats ≤ 6) (j6 : k5 ≤ 6) (jN : ∀ j, j < k5 → boatNamesF j ≠ name) (hm10 : 6 - k5 < n8 + 1) (c11 : k5 < boats) (e13 : y12 = boatNamesF k5) (e15 : y14 = lg_cmp y12 name) (c16 : y14 ≠ 0) : (k5 + 1) ≤ 6 := by
  have b_y14 := ia_b y14
  have b_name := Int64.toInt_lt name
  have b_y12 := Int64.toInt_lt y12
  try simp only [ia_lt, ia_le, ia_eq, ia_m1, ia_0, ia_1, ne_eq, true_and, and_true, false_and, and_false, or_false, false_or, or_true, true_or, not_true_eq_false, not_false_eq_true] at *
  all_goals omega
set_option maxRecDepth 20000 in
theorem lf_f_boatNamed_3 (boats : Nat) (boatNamesF : Nat → Int64) (name : Int64) (k5 : Nat) (n8 : Nat) (y12 : Int64) (y14 : Int32) (iv_a_5 : boats ≤ 6) (j6 : k5 ≤ 6) (jN : ∀ j, j < k5 → boatNamesF j ≠ name) (hm10 : 6 - k5 < n8 + 1) (c11 : k5 < boats) (e13 : y12 = boatNamesF k5) (e15 : y14 = lg_cmp y12 name) (c16 : y14 ≠ 0) : ∀ j, j < (k5 + 1) → boatNamesF j ≠ name := by
  intro j hj
  by_cases q : j = k5
  · rw [q]
    subst_vars
    exact fun z => absurd ((lg0 _ _).mpr z) ‹_›
  · exact jN j (by omega)
set_option maxRecDepth 20000 in
theorem lf_f_boatNamed_4 (boats : Nat) (boatNamesF : Nat → Int64) (name : Int64) (k5 : Nat) (n8 : Nat) (y12 : Int64) (y14 : Int32) (iv_a_5 : boats ≤ 6) (j6 : k5 ≤ 6) (jN : ∀ j, j < k5 → boatNamesF j ≠ name) (hm10 : 6 - k5 < n8 + 1) (c11 : k5 < boats) (e13 : y12 = boatNamesF k5) (e15 : y14 = lg_cmp y12 name) (c16 : y14 ≠ 0) : 6 - (k5 + 1) < n8 := by
  have b_y14 := ia_b y14
  have b_name := Int64.toInt_lt name
  have b_y12 := Int64.toInt_lt y12
  try simp only [ia_lt, ia_le, ia_eq, ia_m1, ia_0, ia_1, ne_eq, true_and, and_true, false_and, and_false, or_false, false_or, or_true, true_or, not_true_eq_false, not_false_eq_true] at *
  all_goals omega
set_option maxRecDepth 20000 in
theorem lf_f_boatNamed_5 (boats : Nat) (boatNamesF : Nat → Int64) (name : Int64) (k5 : Nat) (n8 : Nat) (y12 : Int64) (y14 : Int32) (iv_a_5 : boats ≤ 6) (j6 : k5 ≤ 6) (jN : ∀ j, j < k5 → boatNamesF j ≠ name) (hm10 : 6 - k5 < n8 + 1) (c11 : k5 < boats) (e13 : y12 = boatNamesF k5) (e15 : y14 = lg_cmp y12 name) (c16 : y14 = 0) : k5 < boats ∧ fstJ boatNamesF name k5 := by
  subst_vars
  exact ⟨by omega, (lg0 _ _).mp (by first | assumption | exact Eq.symm (by assumption)), jN⟩
set_option maxRecDepth 20000 in
theorem lf_f_boatNamed_6   : 0 ≤ 6 := by
  try simp only [ia_lt, ia_le, ia_eq, ia_m1, ia_0, ia_1, ne_eq, true_and, and_true, false_and, and_false, or_false, false_or, or_true, true_or, not_true_eq_false, not_false_eq_true] at *
  all_goals omega
set_option maxRecDepth 20000 in
theorem lf_f_boatNamed_7 (boatNamesF : Nat → Int64) (name : Int64)  : ∀ j, j < 0 → boatNamesF j ≠ name := by
  intro j hj; exact absurd hj (Nat.not_lt_zero j)
set_option maxHeartbeats 4000000 in
set_option maxRecDepth 100000 in
theorem c_f_boatNamed (l : Launch) (dC : Nat → ClassId) (dI : Nat → Nat → Nat) (ky : Nat → ClassId) (a : Nat) (wide : Nat) (high : Nat) (heat : Int32) (cools : Int32) (skinHeat : Int32) (today : Int32) (stirs : Int32) (steps : Int32) (lumps : Nat) (boats : Nat) (thickness : Nat) (lumpNames : Nat) (lumpCells : Nat) (boatNames : Nat) (boatCells : Nat) (loads : Nat) (spoons : Nat) (spoonsLeft : Nat) (depths : Nat) (boatNamesF : Nat → Int64) (name : Int64) (iv_a_0 : 2 ≤ wide) (iv_a_1 : wide ≤ 6) (iv_a_2 : 2 ≤ high) (iv_a_3 : high ≤ 6) (iv_a_4 : lumps ≤ 6) (iv_a_5 : boats ≤ 6) : Met l yX7_boatNamed wsX7_boatNamed ({ frames := 0, cells := 0, slots := 0, locals := 0 }) (PcP dC dI ky [.ref a, .long name] [(a, .inr (7, [.int (nI wide), .int (nI high), .int heat, .int cools, .int skinHeat, .int today, .int stirs, .int steps, .int (nI lumps), .int (nI boats), .ref thickness, .ref lumpNames, .ref lumpCells, .ref boatNames, .ref boatCells, .ref loads, .ref spoons, .ref spoonsLeft, .ref depths])), (boatNames, .inl (ky 1, 6, .inr (.inl boatNamesF)))]) (vp_Si (fun r : Int32 => (r = (-1 : Int32) ∧ (¬ hasJ boats boatNamesF name)) ∨ (∃ k9 : Nat, (k9 < boats ∧ fstJ boatNamesF name k9) ∧ r = nI k9))) 0 0 (fun _ => False) := by
  refine Met.ofW (cc := cX7_boatNamed) (maxL := 4) (ret := (some .int)) (by decide) rfl ?_
  intro p e s m args below meth c s₁ B hml hv
  obtain ⟨rfl, hP, hK⟩ := hv
  have hx := B.exec
  have hb := B.bytes
  have hr := B.returns
  have hts := atoms_spec (ws := wsX7_boatNamed) B.pre
  have hown : s.vm.findClass RX7 = some m.cls := findClass_of_methodNamed B.named
  have hlocks := B.notSynchronized
  have hin7 : ∀ w ∈ u_ws RX7 TX7 19, w ∈ wsX7_boatNamed := by decide +kernel
  have hl := lv_entry ([.ref a, .long name]) (n := 4) (Nat.le_of_ble_eq_true rfl)
  rw [lg_entry_eq]
  generalize (lg_sl ([.ref a, .long name]) ++ List.replicate (4 - (lg_sl ([.ref a, .long name])).length) Slot.unset).toArray = ls at hl ⊢
  have hl : lv_has ls 4 [(0, .ref a), (1, .long name)] := hl
  refine q_name (fun Q hQ => ?_)
  generalize ([.ref a, .long name] : List Value).toArray = args at hts hQ ⊢
  refine lv_iconst (v := nI 0) hx hb dX7_boatNamed_0 (by decide) ?_
  refine lv_istore_n (lv' := [(3, .int (nI 0)), (0, .ref a), (1, .long name)]) hx hb dX7_boatNamed_1 rfl hl (by decide) rfl (fun ls hl => ?_)
  have hL7 : ∀ (n8 : Nat) (k5 : Nat), (k5 ≤ 6) → (∀ j, j < k5 → boatNamesF j ≠ name) → 6 - k5 < n8 → ∀ (ls : Array Slot), lv_has ls 4 [(3, .int (nI k5)), (0, .ref a), (1, .long name)] → W p l e (headSpec wsX7_boatNamed ({ frames := 0, cells := 0, slots := 0, locals := 0 })).room s m args below meth c s.heap [] 0 0 Q (F0 m 2 ls []) := by
    intro n8
    induction n8 with
    | zero => intro k5 _ _ h9; exact absurd h9 (Nat.not_lt_zero _)
    | succ n8 ih9 =>
      intro k5 j6 jN hm10 ls hl
      refine lv_iload_n hx hb dX7_boatNamed_2 rfl (lv_at hl 0 rfl) ?_
      refine lv_aload_n hx hb dX7_boatNamed_3 rfl (lv_at hl 1 rfl) ?_
      refine va_get (D := (dC, dI)) (ci := 7) (v := .int (nI boats)) (C := RX7) (T := TX7) (N := 19) hx hb hts hin7 hown hK hP 0 rfl rfl 9 (by decide) (hts (.fieldLink RX7 71 "PorridgeSea$Sea" "boats" "I") (List.mem_of_getElem? (i := 1) rfl)) (fun _ h9 => h9) rfl dX7_boatNamed_4 ?_
      refine n_icmp_ge (x := k5) (y := boats) (tgt := 29) hx hb (by omega) (by omega) dX7_boatNamed_7 (by decide) (fun c11 => ?_) (fun c11 => ?_)
      · refine lv_iconst (v := (-1 : Int32)) hx hb dX7_boatNamed_29 (by decide) ?_
        rw [hQ]
        exact W.iret (v := (-1 : Int32)) hx hb hr (fun t9 ht9 hW9 => ⟨(-1 : Int32), rfl, (Or.inl ⟨rfl, (lf_f_boatNamed_1 boats boatNamesF name k5 n8 iv_a_5 j6 jN hm10 c11)⟩), ht9⟩) (fun _ h => absurd h List.not_mem_nil) dX7_boatNamed_30
      · refine lv_aload_n hx hb dX7_boatNamed_10 rfl (lv_at hl 1 rfl) ?_
        refine va_get (D := (dC, dI)) (ci := 7) (v := .ref boatNames) (C := RX7) (T := TX7) (N := 19) hx hb hts hin7 hown hK hP 0 rfl rfl 13 (by decide) (hts (.fieldLink RX7 22 "PorridgeSea$Sea" "boatNames" "[J") (List.mem_of_getElem? (i := 2) rfl)) (fun _ h9 => h9) rfl dX7_boatNamed_11 ?_
        refine lv_iload_n hx hb dX7_boatNamed_14 rfl (lv_at hl 0 rfl) ?_
        obtain ⟨y12, e13⟩ : ∃ z9, z9 = boatNamesF k5 := ⟨_, rfl⟩
        refine r_lald hx hb hK hP 1 rfl k5 (by omega) (by decide) y12 e13.symm dX7_boatNamed_15 ?_
        refine lv_lload_n hx hb dX7_boatNamed_16 rfl (lv_at hl 2 rfl) ?_
        refine W.lcmp hx hb dX7_boatNamed_17 ?_
        refine lv_topi (fun y14 e15 => ?_)
        refine lv_if_ne (tgt := 23) hx hb dX7_boatNamed_18 (by decide) (fun c16 => ?_) (fun c16 => ?_)
        · refine lv_iinc (v := nI (k5 + 1)) (lv' := [(3, .int (nI (k5 + 1))), (0, .ref a), (1, .long name)]) hx hb dX7_boatNamed_23 hl (k := 0) rfl (show nI k5 + nI 1 = nI (k5 + 1) from nI_add _ _) (by decide) rfl (fun ls hl => ?_)
          refine lv_goto (tgt := 2) hx hb dX7_boatNamed_26 (by decide) ?_
          exact ih9 (k5 + 1) (lf_f_boatNamed_2 boats boatNamesF name k5 n8 y12 y14 iv_a_5 j6 jN hm10 c11 e13 e15 c16) (lf_f_boatNamed_3 boats boatNamesF name k5 n8 y12 y14 iv_a_5 j6 jN hm10 c11 e13 e15 c16) (lf_f_boatNamed_4 boats boatNamesF name k5 n8 y12 y14 iv_a_5 j6 jN hm10 c11 e13 e15 c16) _ (lv_sub hl [0, 1, 2] rfl)
        · refine lv_iload_n hx hb dX7_boatNamed_21 rfl (lv_at hl 0 rfl) ?_
          rw [hQ]
          exact W.iret (v := nI k5) hx hb hr (fun t9 ht9 hW9 => ⟨nI k5, rfl, (Or.inr ⟨k5, (lf_f_boatNamed_5 boats boatNamesF name k5 n8 y12 y14 iv_a_5 j6 jN hm10 c11 e13 e15 c16), rfl⟩), ht9⟩) (fun _ h => absurd h List.not_mem_nil) dX7_boatNamed_22
  exact hL7 ((6 - 0) + 1) 0 (lf_f_boatNamed_6) (lf_f_boatNamed_7 boatNamesF name) (Nat.lt_succ_self _) _ (lv_sub hl [0, 1, 2] rfl)
set_option maxRecDepth 20000 in
theorem lf_f_hasLumpIn_1 (lumps : Nat) (lumpCellsF : Nat → Int32) (x : Int32) (k5 : Nat) (n8 : Nat) (iv_a_4 : lumps ≤ 6) (j6 : k5 ≤ 6) (jN : ∀ j, j < k5 → lumpCellsF j ≠ x) (hm10 : 6 - k5 < n8 + 1) (c11 : lumps ≤ k5) : ((nI 0) = nI 1 ∧ (hasI lumps lumpCellsF x)) ∨ ((nI 0) = nI 0 ∧ (¬ hasI lumps lumpCellsF x)) := by
  first
    | (refine Or.inr ⟨rfl, ?_⟩; rintro ⟨j, hj, e⟩; exact jN j (by omega) e)
    | (refine Or.inl ⟨rfl, ⟨k5, by omega, ?_⟩⟩; subst_vars; first | rfl | assumption)
set_option maxRecDepth 20000 in
theorem lf_f_hasLumpIn_2 (lumps : Nat) (lumpCellsF : Nat → Int32) (x : Int32) (k5 : Nat) (n8 : Nat) (y12 : Int32) (iv_a_4 : lumps ≤ 6) (j6 : k5 ≤ 6) (jN : ∀ j, j < k5 → lumpCellsF j ≠ x) (hm10 : 6 - k5 < n8 + 1) (c11 : k5 < lumps) (e13 : y12 = lumpCellsF k5) (c14 : y12 ≠ x) : (k5 + 1) ≤ 6 := by
  have b_x := ia_b x
  have b_y12 := ia_b y12
  try simp only [ia_lt, ia_le, ia_eq, ia_m1, ia_0, ia_1, ne_eq, true_and, and_true, false_and, and_false, or_false, false_or, or_true, true_or, not_true_eq_false, not_false_eq_true] at *
  all_goals omega
set_option maxRecDepth 20000 in
theorem lf_f_hasLumpIn_3 (lumps : Nat) (lumpCellsF : Nat → Int32) (x : Int32) (k5 : Nat) (n8 : Nat) (y12 : Int32) (iv_a_4 : lumps ≤ 6) (j6 : k5 ≤ 6) (jN : ∀ j, j < k5 → lumpCellsF j ≠ x) (hm10 : 6 - k5 < n8 + 1) (c11 : k5 < lumps) (e13 : y12 = lumpCellsF k5) (c14 : y12 ≠ x) : ∀ j, j < (k5 + 1) → lumpCellsF j ≠ x := by
  intro j hj
  by_cases q : j = k5
  · rw [q]
    subst_vars
    assumption
  · exact jN j (by omega)
set_option maxRecDepth 20000 in
theorem lf_f_hasLumpIn_4 (lumps : Nat) (lumpCellsF : Nat → Int32) (x : Int32) (k5 : Nat) (n8 : Nat) (y12 : Int32) (iv_a_4 : lumps ≤ 6) (j6 : k5 ≤ 6) (jN : ∀ j, j < k5 → lumpCellsF j ≠ x) (hm10 : 6 - k5 < n8 + 1) (c11 : k5 < lumps) (e13 : y12 = lumpCellsF k5) (c14 : y12 ≠ x) : 6 - (k5 + 1) < n8 := by
  have b_x := ia_b x
  have b_y12 := ia_b y12
  try simp only [ia_lt, ia_le, ia_eq, ia_m1, ia_0, ia_1, ne_eq, true_and, and_true, false_and, and_false, or_false, false_or, or_true, true_or, not_true_eq_false, not_false_eq_true] at *
  all_goals omega
set_option maxRecDepth 20000 in
theorem lf_f_hasLumpIn_5 (lumps : Nat) (lumpCellsF : Nat → Int32) (x : Int32) (k5 : Nat) (n8 : Nat) (y12 : Int32) (iv_a_4 : lumps ≤ 6) (j6 : k5 ≤ 6) (jN : ∀ j, j < k5 → lumpCellsF j ≠ x) (hm10 : 6 - k5 < n8 + 1) (c11 : k5 < lumps) (e13 : y12 = lumpCellsF k5) (c14 : y12 = x) : ((nI 1) = nI 1 ∧ (hasI lumps lumpCellsF x)) ∨ ((nI 1) = nI 0 ∧ (¬ hasI lumps lumpCellsF x)) := by
  first
    | (refine Or.inr ⟨rfl, ?_⟩; rintro ⟨j, hj, e⟩; exact jN j (by omega) e)
    | (refine Or.inl ⟨rfl, ⟨k5, by omega, ?_⟩⟩; subst_vars; first | rfl | assumption)
set_option maxRecDepth 20000 in
theorem lf_f_hasLumpIn_6   : 0 ≤ 6 := by
  try simp only [ia_lt, ia_le, ia_eq, ia_m1, ia_0, ia_1, ne_eq, true_and, and_true, false_and, and_false, or_false, false_or, or_true, true_or, not_true_eq_false, not_false_eq_true] at *
  all_goals omega
set_option maxRecDepth 20000 in
theorem lf_f_hasLumpIn_7 (lumpCellsF : Nat → Int32) (x : Int32)  : ∀ j, j < 0 → lumpCellsF j ≠ x := by
  intro j hj; exact absurd hj (Nat.not_lt_zero j)
set_option maxHeartbeats 4000000 in
set_option maxRecDepth 100000 in
theorem c_f_hasLumpIn (l : Launch) (dC : Nat → ClassId) (dI : Nat → Nat → Nat) (ky : Nat → ClassId) (a : Nat) (wide : Nat) (high : Nat) (heat : Int32) (cools : Int32) (skinHeat : Int32) (today : Int32) (stirs : Int32) (steps : Int32) (lumps : Nat) (boats : Nat) (thickness : Nat) (lumpNames : Nat) (lumpCells : Nat) (boatNames : Nat) (boatCells : Nat) (loads : Nat) (spoons : Nat) (spoonsLeft : Nat) (depths : Nat) (lumpCellsF : Nat → Int32) (x : Int32) (iv_a_0 : 2 ≤ wide) (iv_a_1 : wide ≤ 6) (iv_a_2 : 2 ≤ high) (iv_a_3 : high ≤ 6) (iv_a_4 : lumps ≤ 6) (iv_a_5 : boats ≤ 6) : Met l yX7_hasLumpIn wsX7_hasLumpIn ({ frames := 0, cells := 0, slots := 0, locals := 0 }) (PcP dC dI ky [.ref a, .int x] [(a, .inr (7, [.int (nI wide), .int (nI high), .int heat, .int cools, .int skinHeat, .int today, .int stirs, .int steps, .int (nI lumps), .int (nI boats), .ref thickness, .ref lumpNames, .ref lumpCells, .ref boatNames, .ref boatCells, .ref loads, .ref spoons, .ref spoonsLeft, .ref depths])), (lumpCells, .inl (ky 0, 6, .inl lumpCellsF))]) (vp_Si (fun r : Int32 => (r = nI 1 ∧ (hasI lumps lumpCellsF x)) ∨ (r = nI 0 ∧ (¬ hasI lumps lumpCellsF x)))) 0 0 (fun _ => False) := by
  refine Met.ofW (cc := cX7_hasLumpIn) (maxL := 3) (ret := (some .boolean)) (by decide) rfl ?_
  intro p e s m args below meth c s₁ B hml hv
  obtain ⟨rfl, hP, hK⟩ := hv
  have hx := B.exec
  have hb := B.bytes
  have hr := B.returns
  have hts := atoms_spec (ws := wsX7_hasLumpIn) B.pre
  have hown : s.vm.findClass RX7 = some m.cls := findClass_of_methodNamed B.named
  have hlocks := B.notSynchronized
  have hin7 : ∀ w ∈ u_ws RX7 TX7 19, w ∈ wsX7_hasLumpIn := by decide +kernel
  have hl := lv_entry ([.ref a, .int x]) (n := 3) (Nat.le_of_ble_eq_true rfl)
  rw [lg_entry_eq]
  generalize (lg_sl ([.ref a, .int x]) ++ List.replicate (3 - (lg_sl ([.ref a, .int x])).length) Slot.unset).toArray = ls at hl ⊢
  have hl : lv_has ls 3 [(0, .ref a), (1, .int x)] := hl
  refine q_name (fun Q hQ => ?_)
  generalize ([.ref a, .int x] : List Value).toArray = args at hts hQ ⊢
  refine lv_iconst (v := nI 0) hx hb dX7_hasLumpIn_0 (by decide) ?_
  refine lv_istore_n (lv' := [(2, .int (nI 0)), (0, .ref a), (1, .int x)]) hx hb dX7_hasLumpIn_1 rfl hl (by decide) rfl (fun ls hl => ?_)
  have hL7 : ∀ (n8 : Nat) (k5 : Nat), (k5 ≤ 6) → (∀ j, j < k5 → lumpCellsF j ≠ x) → 6 - k5 < n8 → ∀ (ls : Array Slot), lv_has ls 3 [(2, .int (nI k5)), (0, .ref a), (1, .int x)] → W p l e (headSpec wsX7_hasLumpIn ({ frames := 0, cells := 0, slots := 0, locals := 0 })).room s m args below meth c s.heap [] 0 0 Q (F0 m 2 ls []) := by
    intro n8
    induction n8 with
    | zero => intro k5 _ _ h9; exact absurd h9 (Nat.not_lt_zero _)
    | succ n8 ih9 =>
      intro k5 j6 jN hm10 ls hl
      refine lv_iload_n hx hb dX7_hasLumpIn_2 rfl (lv_at hl 0 rfl) ?_
      refine lv_aload_n hx hb dX7_hasLumpIn_3 rfl (lv_at hl 1 rfl) ?_
      refine va_get (D := (dC, dI)) (ci := 7) (v := .int (nI lumps)) (C := RX7) (T := TX7) (N := 19) hx hb hts hin7 hown hK hP 0 rfl rfl 8 (by decide) (hts (.fieldLink RX7 68 "PorridgeSea$Sea" "lumps" "I") (List.mem_of_getElem? (i := 1) rfl)) (fun _ h9 => h9) rfl dX7_hasLumpIn_4 ?_
      refine n_icmp_ge (x := k5) (y := lumps) (tgt := 28) hx hb (by omega) (by omega) dX7_hasLumpIn_7 (by decide) (fun c11 => ?_) (fun c11 => ?_)
      · refine lv_iconst (v := nI 0) hx hb dX7_hasLumpIn_28 (by decide) ?_
        rw [hQ]
        exact W.zret (v := nI 0) hx hb hr (by decide) (fun t9 ht9 hW9 => ⟨nI 0, rfl, (lf_f_hasLumpIn_1 lumps lumpCellsF x k5 n8 iv_a_4 j6 jN hm10 c11), ht9⟩) (fun _ h => absurd h List.not_mem_nil) dX7_hasLumpIn_29
      · refine lv_aload_n hx hb dX7_hasLumpIn_10 rfl (lv_at hl 1 rfl) ?_
        refine va_get (D := (dC, dI)) (ci := 7) (v := .ref lumpCells) (C := RX7) (T := TX7) (N := 19) hx hb hts hin7 hown hK hP 0 rfl rfl 12 (by decide) (hts (.fieldLink RX7 19 "PorridgeSea$Sea" "lumpCells" "[I") (List.mem_of_getElem? (i := 2) rfl)) (fun _ h9 => h9) rfl dX7_hasLumpIn_11 ?_
        refine lv_iload_n hx hb dX7_hasLumpIn_14 rfl (lv_at hl 0 rfl) ?_
        obtain ⟨y12, e13⟩ : ∃ z9, z9 = lumpCellsF k5 := ⟨_, rfl⟩
        refine r_iald hx hb hK hP 1 rfl k5 (by omega) (by decide) y12 e13.symm dX7_hasLumpIn_15 ?_
        refine lv_iload_n hx hb dX7_hasLumpIn_16 rfl (lv_at hl 2 rfl) ?_
        refine lv_icmp_ne (tgt := 22) hx hb dX7_hasLumpIn_17 (by decide) (fun c14 => ?_) (fun c14 => ?_)
        · refine lv_iinc (v := nI (k5 + 1)) (lv' := [(2, .int (nI (k5 + 1))), (0, .ref a), (1, .int x)]) hx hb dX7_hasLumpIn_22 hl (k := 0) rfl (show nI k5 + nI 1 = nI (k5 + 1) from nI_add _ _) (by decide) rfl (fun ls hl => ?_)
          refine lv_goto (tgt := 2) hx hb dX7_hasLumpIn_25 (by decide) ?_
          exact ih9 (k5 + 1) (lf_f_hasLumpIn_2 lumps lumpCellsF x k5 n8 y12 iv_a_4 j6 jN hm10 c11 e13 c14) (lf_f_hasLumpIn_3 lumps lumpCellsF x k5 n8 y12 iv_a_4 j6 jN hm10 c11 e13 c14) (lf_f_hasLumpIn_4 lumps lumpCellsF x k5 n8 y12 iv_a_4 j6 jN hm10 c11 e13 c14) _ (lv_sub hl [0, 1, 2] rfl)
        · refine lv_iconst (v := nI 1) hx hb dX7_hasLumpIn_20 (by decide) ?_
          rw [hQ]
          exact W.zret (v := nI 1) hx hb hr (by decide) (fun t9 ht9 hW9 => ⟨nI 1, rfl, (lf_f_hasLumpIn_5 lumps lumpCellsF x k5 n8 y12 iv_a_4 j6 jN hm10 c11 e13 c14), ht9⟩) (fun _ h => absurd h List.not_mem_nil) dX7_hasLumpIn_21
  exact hL7 ((6 - 0) + 1) 0 (lf_f_hasLumpIn_6) (lf_f_hasLumpIn_7 lumpCellsF x) (Nat.lt_succ_self _) _ (lv_sub hl [0, 1, 2] rfl)
set_option maxRecDepth 20000 in
theorem lf_f_thicknessIn_1 (a : Nat) (wide : Nat) (high : Nat) (heat : Int32) (cools : Int32) (skinHeat : Int32) (today : Int32) (stirs : Int32) (steps : Int32) (lumps : Nat) (boats : Nat) (thickness : Nat) (lumpNames : Nat) (lumpCells : Nat) (boatNames : Nat) (boatCells : Nat) (loads : Nat) (spoons : Nat) (spoonsLeft : Nat) (depths : Nat) (thicknessF : Nat → Int32) (c9 : Nat) (iv_a_0 : 2 ≤ wide) (iv_a_1 : wide ≤ 6) (iv_a_2 : 2 ≤ high) (iv_a_3 : high ≤ 6) (iv_a_4 : lumps ≤ 6) (iv_a_5 : boats ≤ 6) (hc : c9 < 36) (c2 : 36 ≤ c9) : (nI 0) = thicknessF c9 := by
  first
    | assumption
    | (exfalso; omega)
set_option maxHeartbeats 4000000 in
set_option maxRecDepth 100000 in
theorem c_f_thicknessIn (l : Launch) (dC : Nat → ClassId) (dI : Nat → Nat → Nat) (ky : Nat → ClassId) (a : Nat) (wide : Nat) (high : Nat) (heat : Int32) (cools : Int32) (skinHeat : Int32) (today : Int32) (stirs : Int32) (steps : Int32) (lumps : Nat) (boats : Nat) (thickness : Nat) (lumpNames : Nat) (lumpCells : Nat) (boatNames : Nat) (boatCells : Nat) (loads : Nat) (spoons : Nat) (spoonsLeft : Nat) (depths : Nat) (thicknessF : Nat → Int32) (c9 : Nat) (iv_a_0 : 2 ≤ wide) (iv_a_1 : wide ≤ 6) (iv_a_2 : 2 ≤ high) (iv_a_3 : high ≤ 6) (iv_a_4 : lumps ≤ 6) (iv_a_5 : boats ≤ 6) (hc : c9 < 36) : Met l yX7_thicknessIn wsX7_thicknessIn ({ frames := 0, cells := 0, slots := 0, locals := 0 }) (PcP dC dI ky [.ref a, .int (nI c9)] [(a, .inr (7, [.int (nI wide), .int (nI high), .int heat, .int cools, .int skinHeat, .int today, .int stirs, .int steps, .int (nI lumps), .int (nI boats), .ref thickness, .ref lumpNames, .ref lumpCells, .ref boatNames, .ref boatCells, .ref loads, .ref spoons, .ref spoonsLeft, .ref depths])), (thickness, .inl (ky 0, 36, .inl thicknessF))]) (vp_Si (fun r : Int32 => r = thicknessF c9)) 0 0 (fun _ => False) := by
  refine Met.ofW (cc := cX7_thicknessIn) (maxL := 2) (ret := (some .int)) (by decide) rfl ?_
  intro p e s m args below meth c s₁ B hml hv
  obtain ⟨rfl, hP, hK⟩ := hv
  have hx := B.exec
  have hb := B.bytes
  have hr := B.returns
  have hts := atoms_spec (ws := wsX7_thicknessIn) B.pre
  have hown : s.vm.findClass RX7 = some m.cls := findClass_of_methodNamed B.named
  have hlocks := B.notSynchronized
  have hin7 : ∀ w ∈ u_ws RX7 TX7 19, w ∈ wsX7_thicknessIn := by decide +kernel
  have hl := lv_entry ([.ref a, .int (nI c9)]) (n := 2) (Nat.le_of_ble_eq_true rfl)
  rw [lg_entry_eq]
  generalize (lg_sl ([.ref a, .int (nI c9)]) ++ List.replicate (2 - (lg_sl ([.ref a, .int (nI c9)])).length) Slot.unset).toArray = ls at hl ⊢
  have hl : lv_has ls 2 [(0, .ref a), (1, .int (nI c9))] := hl
  refine q_name (fun Q hQ => ?_)
  generalize ([.ref a, .int (nI c9)] : List Value).toArray = args at hts hQ ⊢
  refine lv_iload_n hx hb dX7_thicknessIn_0 rfl (lv_at hl 1 rfl) ?_
  refine n_if_lt (x := c9) (tgt := 19) hx hb (by omega) dX7_thicknessIn_1 (by decide) (fun c1 => c1.elim) (fun c1 => ?_)
  refine lv_iload_n hx hb dX7_thicknessIn_4 rfl (lv_at hl 1 rfl) ?_
  refine lv_bipush (v := nI 36) hx hb dX7_thicknessIn_5 (by decide) ?_
  refine n_icmp_ge (x := c9) (y := 36) (tgt := 19) hx hb (by omega) (by omega) dX7_thicknessIn_7 (by decide) (fun c2 => ?_) (fun c2 => ?_)
  · refine lv_iconst (v := nI 0) hx hb dX7_thicknessIn_19 (by decide) ?_
    rw [hQ]
    exact W.iret (v := nI 0) hx hb hr (fun t9 ht9 hW9 => ⟨nI 0, rfl, (lf_f_thicknessIn_1 a wide high heat cools skinHeat today stirs steps lumps boats thickness lumpNames lumpCells boatNames boatCells loads spoons spoonsLeft depths thicknessF c9 iv_a_0 iv_a_1 iv_a_2 iv_a_3 iv_a_4 iv_a_5 hc c2), ht9⟩) (fun _ h => absurd h List.not_mem_nil) dX7_thicknessIn_20
  · refine lv_aload_n hx hb dX7_thicknessIn_10 rfl (lv_at hl 0 rfl) ?_
    refine va_get (D := (dC, dI)) (ci := 7) (v := .ref thickness) (C := RX7) (T := TX7) (N := 19) hx hb hts hin7 hown hK hP 0 rfl rfl 10 (by decide) (hts (.fieldLink RX7 9 "PorridgeSea$Sea" "thickness" "[I") (List.mem_of_getElem? (i := 1) rfl)) (fun _ h9 => h9) rfl dX7_thicknessIn_11 ?_
    refine lv_iload_n hx hb dX7_thicknessIn_14 rfl (lv_at hl 1 rfl) ?_
    obtain ⟨y3, e4⟩ : ∃ z9, z9 = thicknessF c9 := ⟨_, rfl⟩
    refine r_iald hx hb hK hP 1 rfl c9 (by omega) (by decide) y3 e4.symm dX7_thicknessIn_15 ?_
    refine lv_goto (tgt := 20) hx hb dX7_thicknessIn_16 (by decide) ?_
    rw [hQ]
    exact W.iret (v := y3) hx hb hr (fun t9 ht9 hW9 => ⟨y3, rfl, e4, ht9⟩) (fun _ h => absurd h List.not_mem_nil) dX7_thicknessIn_20
set_option maxRecDepth 20000 in
theorem lf_f_addLump_1 (a : Nat) (wide : Nat) (high : Nat) (heat : Int32) (cools : Int32) (skinHeat : Int32) (today : Int32) (stirs : Int32) (steps : Int32) (lumps : Nat) (boats : Nat) (thickness : Nat) (lumpNames : Nat) (lumpCells : Nat) (boatNames : Nat) (boatCells : Nat) (loads : Nat) (spoons : Nat) (spoonsLeft : Nat) (depths : Nat) (lumpNamesF : Nat → Int64) (lumpCellsF : Nat → Int32) (name : Int64) (x : Int32) (iv_a_0 : 2 ≤ wide) (iv_a_1 : wide ≤ 6) (iv_a_2 : 2 ≤ high) (iv_a_3 : high ≤ 6) (iv_a_4 : lumps ≤ 6) (iv_a_5 : boats ≤ 6) (h6 : lumps < 6) (c1 : 6 ≤ lumps) : lumps = lumps + 1 := by
  first
    | assumption
    | (exfalso; omega)
set_option maxRecDepth 20000 in
theorem lf_f_addLump_2 (a : Nat) (wide : Nat) (high : Nat) (heat : Int32) (cools : Int32) (skinHeat : Int32) (today : Int32) (stirs : Int32) (steps : Int32) (lumps : Nat) (boats : Nat) (thickness : Nat) (lumpNames : Nat) (lumpCells : Nat) (boatNames : Nat) (boatCells : Nat) (loads : Nat) (spoons : Nat) (spoonsLeft : Nat) (depths : Nat) (lumpNamesF : Nat → Int64) (lumpCellsF : Nat → Int32) (name : Int64) (x : Int32) (iv_a_0 : 2 ≤ wide) (iv_a_1 : wide ≤ 6) (iv_a_2 : 2 ≤ high) (iv_a_3 : high ≤ 6) (iv_a_4 : lumps ≤ 6) (iv_a_5 : boats ≤ 6) (h6 : lumps < 6) (c1 : 6 ≤ lumps) : lumpNamesF = vp_updL lumpNamesF lumps name := by
  first
    | assumption
    | (exfalso; omega)
set_option maxRecDepth 20000 in
theorem lf_f_addLump_3 (a : Nat) (wide : Nat) (high : Nat) (heat : Int32) (cools : Int32) (skinHeat : Int32) (today : Int32) (stirs : Int32) (steps : Int32) (lumps : Nat) (boats : Nat) (thickness : Nat) (lumpNames : Nat) (lumpCells : Nat) (boatNames : Nat) (boatCells : Nat) (loads : Nat) (spoons : Nat) (spoonsLeft : Nat) (depths : Nat) (lumpNamesF : Nat → Int64) (lumpCellsF : Nat → Int32) (name : Int64) (x : Int32) (iv_a_0 : 2 ≤ wide) (iv_a_1 : wide ≤ 6) (iv_a_2 : 2 ≤ high) (iv_a_3 : high ≤ 6) (iv_a_4 : lumps ≤ 6) (iv_a_5 : boats ≤ 6) (h6 : lumps < 6) (c1 : 6 ≤ lumps) : lumpCellsF = upd lumpCellsF lumps x := by
  first
    | assumption
    | (exfalso; omega)
set_option maxRecDepth 20000 in
theorem lf_f_addLump_4 (lumps : Nat) (lumpNamesF : Nat → Int64) (lumpCellsF : Nat → Int32) (name : Int64) (x : Int32) (g2 : Nat → Int64) (g4 : Nat → Int32) (iv_a_4 : lumps ≤ 6) (h6 : lumps < 6) (c1 : lumps < 6) (e3 : g2 = vp_updL lumpNamesF lumps name) (e5 : g4 = upd lumpCellsF lumps x) : (lumps + 1) ≤ 6 := by
  have b_x := ia_b x
  have b_name := Int64.toInt_lt name
  try simp only [ia_lt, ia_le, ia_eq, ia_m1, ia_0, ia_1, ne_eq, true_and, and_true, false_and, and_false, or_false, false_or, or_true, true_or, not_true_eq_false, not_false_eq_true] at *
  all_goals omega
set_option maxHeartbeats 4000000 in
set_option maxRecDepth 100000 in
theorem c_f_addLump (l : Launch) (dC : Nat → ClassId) (dI : Nat → Nat → Nat) (ky : Nat → ClassId) (sz : Nat) (a : Nat) (wide : Nat) (high : Nat) (heat : Int32) (cools : Int32) (skinHeat : Int32) (today : Int32) (stirs : Int32) (steps : Int32) (lumps : Nat) (boats : Nat) (thickness : Nat) (lumpNames : Nat) (lumpCells : Nat) (boatNames : Nat) (boatCells : Nat) (loads : Nat) (spoons : Nat) (spoonsLeft : Nat) (depths : Nat) (lumpNamesF : Nat → Int64) (lumpCellsF : Nat → Int32) (name : Int64) (x : Int32) (iv_a_0 : 2 ≤ wide) (iv_a_1 : wide ≤ 6) (iv_a_2 : 2 ≤ high) (iv_a_3 : high ≤ 6) (iv_a_4 : lumps ≤ 6) (iv_a_5 : boats ≤ 6) (h6 : lumps < 6) : Met l yX7_addLump wsX7_addLump ({ frames := 0, cells := 0, slots := 0, locals := 0 }) (PcU dC dI ky [.ref a, .long name, .int x] [(a, .inr (7, [.int (nI wide), .int (nI high), .int heat, .int cools, .int skinHeat, .int today, .int stirs, .int steps, .int (nI lumps), .int (nI boats), .ref thickness, .ref lumpNames, .ref lumpCells, .ref boatNames, .ref boatCells, .ref loads, .ref spoons, .ref spoonsLeft, .ref depths])), (lumpNames, .inl (ky 1, 6, .inr (.inl lumpNamesF))), (lumpCells, .inl (ky 0, 6, .inl lumpCellsF))] sz) (va_Qv (fun (u : Nat × (Nat → Int64) × (Nat → Int32)) => match u with | (lumpsG, lumpNamesG, lumpCellsG) => (lumpsG ≤ 6) ∧ (lumpsG = lumps + 1) ∧ (lumpNamesG = vp_updL lumpNamesF lumps name) ∧ (lumpCellsG = upd lumpCellsF lumps x)) (BU dC dI ky (fun (u : Nat × (Nat → Int64) × (Nat → Int32)) => match u with | (lumpsG, lumpNamesG, lumpCellsG) => [(a, .inr (7, [.int (nI wide), .int (nI high), .int heat, .int cools, .int skinHeat, .int today, .int stirs, .int steps, .int (nI lumpsG), .int (nI boats), .ref thickness, .ref lumpNames, .ref lumpCells, .ref boatNames, .ref boatCells, .ref loads, .ref spoons, .ref spoonsLeft, .ref depths])), (lumpNames, .inl (ky 1, 6, .inr (.inl lumpNamesG))), (lumpCells, .inl (ky 0, 6, .inl lumpCellsG))]) (va_A [(a, .inr (7, [.int (nI wide), .int (nI high), .int heat, .int cools, .int skinHeat, .int today, .int stirs, .int steps, .int (nI lumps), .int (nI boats), .ref thickness, .ref lumpNames, .ref lumpCells, .ref boatNames, .ref boatCells, .ref loads, .ref spoons, .ref spoonsLeft, .ref depths])), (lumpNames, .inl (ky 1, 6, .inr (.inl lumpNamesF))), (lumpCells, .inl (ky 0, 6, .inl lumpCellsF))] sz)) (va_A [(a, .inr (7, [.int (nI wide), .int (nI high), .int heat, .int cools, .int skinHeat, .int today, .int stirs, .int steps, .int (nI lumps), .int (nI boats), .ref thickness, .ref lumpNames, .ref lumpCells, .ref boatNames, .ref boatCells, .ref loads, .ref spoons, .ref spoonsLeft, .ref depths])), (lumpNames, .inl (ky 1, 6, .inr (.inl lumpNamesF))), (lumpCells, .inl (ky 0, 6, .inl lumpCellsF))] sz)) 0 0 (va_A [(a, .inr (7, [.int (nI wide), .int (nI high), .int heat, .int cools, .int skinHeat, .int today, .int stirs, .int steps, .int (nI lumps), .int (nI boats), .ref thickness, .ref lumpNames, .ref lumpCells, .ref boatNames, .ref boatCells, .ref loads, .ref spoons, .ref spoonsLeft, .ref depths])), (lumpNames, .inl (ky 1, 6, .inr (.inl lumpNamesF))), (lumpCells, .inl (ky 0, 6, .inl lumpCellsF))] sz) := by
  refine Met.ofW (cc := cX7_addLump) (maxL := 4) (ret := none) (by decide) rfl ?_
  intro p e s m args below meth c s₁ B hml hv
  obtain ⟨rfl, hsz, hP, hK, hD0⟩ := hv
  have hx := B.exec
  have hb := B.bytes
  have hr := B.returns
  have hts := atoms_spec (ws := wsX7_addLump) B.pre
  have hown : s.vm.findClass RX7 = some m.cls := findClass_of_methodNamed B.named
  have hlocks := B.notSynchronized
  have hin7 : ∀ w ∈ u_ws RX7 TX7 19, w ∈ wsX7_addLump := by decide +kernel
  subst hsz
  have hD := hD0.self (sz := s.heap.size)
  generalize hAe : va_A [(a, .inr (7, [.int (nI wide), .int (nI high), .int heat, .int cools, .int skinHeat, .int today, .int stirs, .int steps, .int (nI lumps), .int (nI boats), .ref thickness, .ref lumpNames, .ref lumpCells, .ref boatNames, .ref boatCells, .ref loads, .ref spoons, .ref spoonsLeft, .ref depths])), (lumpNames, .inl (ky 1, 6, .inr (.inl lumpNamesF))), (lumpCells, .inl (ky 0, 6, .inl lumpCellsF))] s.heap.size = A at hD ⊢
  have hA : ∀ q : Nat, s.heap.size ≤ q → A q := fun q h => by rw [← hAe]; exact Or.inr h
  have hS : va_S A s.heap s.heap [] := va_S.rf
  have hl := lv_entry ([.ref a, .long name, .int x]) (n := 4) (Nat.le_of_ble_eq_true rfl)
  rw [lg_entry_eq]
  generalize (lg_sl ([.ref a, .long name, .int x]) ++ List.replicate (4 - (lg_sl ([.ref a, .long name, .int x])).length) Slot.unset).toArray = ls at hl ⊢
  have hl : lv_has ls 4 [(0, .ref a), (1, .long name), (3, .int x)] := hl
  refine q_name (fun Q hQ => ?_)
  generalize ([.ref a, .long name, .int x] : List Value).toArray = args at hts hQ ⊢
  refine lv_aload_n hx hb dX7_addLump_0 rfl (lv_at hl 0 rfl) ?_
  refine va_get (D := (dC, dI)) (ci := 7) (v := .int (nI lumps)) (C := RX7) (T := TX7) (N := 19) hx hb hts hin7 hown hK hP 0 rfl rfl 8 (by decide) (hts (.fieldLink RX7 68 "PorridgeSea$Sea" "lumps" "I") (List.mem_of_getElem? (i := 1) rfl)) (fun _ h9 => h9) rfl dX7_addLump_1 ?_
  refine lv_bipush (v := nI 6) hx hb dX7_addLump_4 (by decide) ?_
  refine n_icmp_ge (x := lumps) (y := 6) (tgt := 39) hx hb (by omega) (by omega) dX7_addLump_6 (by decide) (fun c1 => ?_) (fun c1 => ?_)
  · rw [hQ]
    exact W.vret hx hb hr (fun t9 ht9 hW9 => ⟨⟨(lumps, lumpNamesF, lumpCellsF), rfl, ⟨iv_a_4, (lf_f_addLump_1 a wide high heat cools skinHeat today stirs steps lumps boats thickness lumpNames lumpCells boatNames boatCells loads spoons spoonsLeft depths lumpNamesF lumpCellsF name x iv_a_0 iv_a_1 iv_a_2 iv_a_3 iv_a_4 iv_a_5 h6 c1), (lf_f_addLump_2 a wide high heat cools skinHeat today stirs steps lumps boats thickness lumpNames lumpCells boatNames boatCells loads spoons spoonsLeft depths lumpNamesF lumpCellsF name x iv_a_0 iv_a_1 iv_a_2 iv_a_3 iv_a_4 iv_a_5 h6 c1), (lf_f_addLump_3 a wide high heat cools skinHeat today stirs steps lumps boats thickness lumpNames lumpCells boatNames boatCells loads spoons spoonsLeft depths lumpNamesF lumpCellsF name x iv_a_0 iv_a_1 iv_a_2 iv_a_3 iv_a_4 iv_a_5 h6 c1)⟩, by rw [ht9]; exact hP, va_K.moved hW9.alike hK, hD⟩, hS.F ht9⟩) hS.2.2 dX7_addLump_39
  · refine lv_aload_n hx hb dX7_addLump_9 rfl (lv_at hl 0 rfl) ?_
    refine va_get (D := (dC, dI)) (ci := 7) (v := .ref lumpNames) (C := RX7) (T := TX7) (N := 19) hx hb hts hin7 hown hK hP 0 rfl rfl 11 (by decide) (hts (.fieldLink RX7 15 "PorridgeSea$Sea" "lumpNames" "[J") (List.mem_of_getElem? (i := 2) rfl)) (fun _ h9 => h9) rfl dX7_addLump_10 ?_
    refine lv_aload_n hx hb dX7_addLump_13 rfl (lv_at hl 0 rfl) ?_
    refine va_get (D := (dC, dI)) (ci := 7) (v := .int (nI lumps)) (C := RX7) (T := TX7) (N := 19) hx hb hts hin7 hown hK hP 0 rfl rfl 8 (by decide) (hts (.fieldLink RX7 68 "PorridgeSea$Sea" "lumps" "I") (List.mem_of_getElem? (i := 1) rfl)) (fun _ h9 => h9) rfl dX7_addLump_14 ?_
    refine lv_lload_n hx hb dX7_addLump_17 rfl (lv_at hl 1 rfl) ?_
    refine r_last (x := name) hx hb hK hP hD hS 1 rfl lumps (by omega) (by decide) dX7_addLump_18 (fun H locs hP hD hS => ?_)
    obtain ⟨g2, e3⟩ : ∃ z9, z9 = vp_updL lumpNamesF lumps name := ⟨_, rfl⟩
    rw [← e3] at hP hD
    have hP : va_P (dC, dI) vwCl [(a, .inr (7, [.int (nI wide), .int (nI high), .int heat, .int cools, .int skinHeat, .int today, .int stirs, .int steps, .int (nI lumps), .int (nI boats), .ref thickness, .ref lumpNames, .ref lumpCells, .ref boatNames, .ref boatCells, .ref loads, .ref spoons, .ref spoonsLeft, .ref depths])), (lumpNames, .inl (ky 1, 6, .inr (.inl g2))), (lumpCells, .inl (ky 0, 6, .inl lumpCellsF))] H := hP
    have hD : va_D A [(a, .inr (7, [.int (nI wide), .int (nI high), .int heat, .int cools, .int skinHeat, .int today, .int stirs, .int steps, .int (nI lumps), .int (nI boats), .ref thickness, .ref lumpNames, .ref lumpCells, .ref boatNames, .ref boatCells, .ref loads, .ref spoons, .ref spoonsLeft, .ref depths])), (lumpNames, .inl (ky 1, 6, .inr (.inl g2))), (lumpCells, .inl (ky 0, 6, .inl lumpCellsF))] := hD
    refine lv_aload_n hx hb dX7_addLump_19 rfl (lv_at hl 0 rfl) ?_
    refine va_get (D := (dC, dI)) (ci := 7) (v := .ref lumpCells) (C := RX7) (T := TX7) (N := 19) hx hb hts hin7 hown hK hP 0 rfl rfl 12 (by decide) (hts (.fieldLink RX7 19 "PorridgeSea$Sea" "lumpCells" "[I") (List.mem_of_getElem? (i := 3) rfl)) (fun _ h9 => h9) rfl dX7_addLump_20 ?_
    refine lv_aload_n hx hb dX7_addLump_23 rfl (lv_at hl 0 rfl) ?_
    refine va_get (D := (dC, dI)) (ci := 7) (v := .int (nI lumps)) (C := RX7) (T := TX7) (N := 19) hx hb hts hin7 hown hK hP 0 rfl rfl 8 (by decide) (hts (.fieldLink RX7 68 "PorridgeSea$Sea" "lumps" "I") (List.mem_of_getElem? (i := 1) rfl)) (fun _ h9 => h9) rfl dX7_addLump_24 ?_
    refine lv_iload_n hx hb dX7_addLump_27 rfl (lv_at hl 2 rfl) ?_
    refine r_iast (x := x) hx hb hK hP hD hS 2 rfl lumps (by omega) (by decide) dX7_addLump_28 (fun H locs hP hD hS => ?_)
    obtain ⟨g4, e5⟩ : ∃ z9, z9 = upd lumpCellsF lumps x := ⟨_, rfl⟩
    rw [← e5] at hP hD
    have hP : va_P (dC, dI) vwCl [(a, .inr (7, [.int (nI wide), .int (nI high), .int heat, .int cools, .int skinHeat, .int today, .int stirs, .int steps, .int (nI lumps), .int (nI boats), .ref thickness, .ref lumpNames, .ref lumpCells, .ref boatNames, .ref boatCells, .ref loads, .ref spoons, .ref spoonsLeft, .ref depths])), (lumpNames, .inl (ky 1, 6, .inr (.inl g2))), (lumpCells, .inl (ky 0, 6, .inl g4))] H := hP
    have hD : va_D A [(a, .inr (7, [.int (nI wide), .int (nI high), .int heat, .int cools, .int skinHeat, .int today, .int stirs, .int steps, .int (nI lumps), .int (nI boats), .ref thickness, .ref lumpNames, .ref lumpCells, .ref boatNames, .ref boatCells, .ref loads, .ref spoons, .ref spoonsLeft, .ref depths])), (lumpNames, .inl (ky 1, 6, .inr (.inl g2))), (lumpCells, .inl (ky 0, 6, .inl g4))] := hD
    refine lv_aload_n hx hb dX7_addLump_29 rfl (lv_at hl 0 rfl) ?_
    refine lv_dup hx hb dX7_addLump_30 rfl ?_
    refine va_get (D := (dC, dI)) (ci := 7) (v := .int (nI lumps)) (C := RX7) (T := TX7) (N := 19) hx hb hts hin7 hown hK hP 0 rfl rfl 8 (by decide) (hts (.fieldLink RX7 68 "PorridgeSea$Sea" "lumps" "I") (List.mem_of_getElem? (i := 1) rfl)) (fun _ h9 => h9) rfl dX7_addLump_31 ?_
    refine lv_iconst (v := nI 1) hx hb dX7_addLump_34 (by decide) ?_
    refine lv_iadd hx hb dX7_addLump_35 ?_
    refine r_ti (nI (lumps + 1)) (nI_add _ _) ?_
    refine va_put (D := (dC, dI)) (ci := 7) (v := .int (nI (lumps + 1))) (ty := .int) (C := RX7) (T := TX7) (N := 19) hx hb hts hin7 tyX7 tyX7_ok nmX7 hown hK hP hD hS 0 rfl rfl 8 (by decide) (hts (.fieldLink RX7 68 "PorridgeSea$Sea" "lumps" "I") (List.mem_of_getElem? (i := 1) rfl)) (fun _ h9 => h9) rfl (by decide +kernel) rfl rfl (Nat.le_of_ble_eq_true rfl) dX7_addLump_36 (fun H locs hP hD hS => ?_)
    have hP : va_P (dC, dI) vwCl [(a, .inr (7, [.int (nI wide), .int (nI high), .int heat, .int cools, .int skinHeat, .int today, .int stirs, .int steps, .int (nI (lumps + 1)), .int (nI boats), .ref thickness, .ref lumpNames, .ref lumpCells, .ref boatNames, .ref boatCells, .ref loads, .ref spoons, .ref spoonsLeft, .ref depths])), (lumpNames, .inl (ky 1, 6, .inr (.inl g2))), (lumpCells, .inl (ky 0, 6, .inl g4))] H := hP
    have hD : va_D A [(a, .inr (7, [.int (nI wide), .int (nI high), .int heat, .int cools, .int skinHeat, .int today, .int stirs, .int steps, .int (nI (lumps + 1)), .int (nI boats), .ref thickness, .ref lumpNames, .ref lumpCells, .ref boatNames, .ref boatCells, .ref loads, .ref spoons, .ref spoonsLeft, .ref depths])), (lumpNames, .inl (ky 1, 6, .inr (.inl g2))), (lumpCells, .inl (ky 0, 6, .inl g4))] := hD
    rw [hQ]
    exact W.vret hx hb hr (fun t9 ht9 hW9 => ⟨⟨((lumps + 1), g2, g4), rfl, ⟨(lf_f_addLump_4 lumps lumpNamesF lumpCellsF name x g2 g4 iv_a_4 h6 c1 e3 e5), rfl, e3, e5⟩, by rw [ht9]; exact hP, va_K.moved hW9.alike hK, hD⟩, hS.F ht9⟩) hS.2.2 dX7_addLump_39
set_option maxRecDepth 20000 in
theorem lf_f_addBoat_1 (a : Nat) (wide : Nat) (high : Nat) (heat : Int32) (cools : Int32) (skinHeat : Int32) (today : Int32) (stirs : Int32) (steps : Int32) (lumps : Nat) (boats : Nat) (thickness : Nat) (lumpNames : Nat) (lumpCells : Nat) (boatNames : Nat) (boatCells : Nat) (loads : Nat) (spoons : Nat) (spoonsLeft : Nat) (depths : Nat) (boatNamesF : Nat → Int64) (boatCellsF : Nat → Int32) (loadsF : Nat → Int32) (spoonsF : Nat → Int32) (spoonsLeftF : Nat → Int32) (depthsF : Nat → Int32) (name : Int64) (x : Int32) (y : Int32) (z : Int32) (iv_a_0 : 2 ≤ wide) (iv_a_1 : wide ≤ 6) (iv_a_2 : 2 ≤ high) (iv_a_3 : high ≤ 6) (iv_a_4 : lumps ≤ 6) (iv_a_5 : boats ≤ 6) (h6 : boats < 6) (c1 : 6 ≤ boats) : boats = boats + 1 := by
  first
    | assumption
    | (exfalso; omega)
set_option maxRecDepth 20000 in
theorem lf_f_addBoat_2 (a : Nat) (wide : Nat) (high : Nat) (heat : Int32) (cools : Int32) (skinHeat : Int32) (today : Int32) (stirs : Int32) (steps : Int32) (lumps : Nat) (boats : Nat) (thickness : Nat) (lumpNames : Nat) (lumpCells : Nat) (boatNames : Nat) (boatCells : Nat) (loads : Nat) (spoons : Nat) (spoonsLeft : Nat) (depths : Nat) (boatNamesF : Nat → Int64) (boatCellsF : Nat → Int32) (loadsF : Nat → Int32) (spoonsF : Nat → Int32) (spoonsLeftF : Nat → Int32) (depthsF : Nat → Int32) (name : Int64) (x : Int32) (y : Int32) (z : Int32) (iv_a_0 : 2 ≤ wide) (iv_a_1 : wide ≤ 6) (iv_a_2 : 2 ≤ high) (iv_a_3 : high ≤ 6) (iv_a_4 : lumps ≤ 6) (iv_a_5 : boats ≤ 6) (h6 : boats < 6) (c1 : 6 ≤ boats) : boatNamesF = vp_updL boatNamesF boats name := by
  first
    | assumption
    | (exfalso; omega)
set_option maxRecDepth 20000 in
theorem lf_f_addBoat_3 (a : Nat) (wide : Nat) (high : Nat) (heat : Int32) (cools : Int32) (skinHeat : Int32) (today : Int32) (stirs : Int32) (steps : Int32) (lumps : Nat) (boats : Nat) (thickness : Nat) (lumpNames : Nat) (lumpCells : Nat) (boatNames : Nat) (boatCells : Nat) (loads : Nat) (spoons : Nat) (spoonsLeft : Nat) (depths : Nat) (boatNamesF : Nat → Int64) (boatCellsF : Nat → Int32) (loadsF : Nat → Int32) (spoonsF : Nat → Int32) (spoonsLeftF : Nat → Int32) (depthsF : Nat → Int32) (name : Int64) (x : Int32) (y : Int32) (z : Int32) (iv_a_0 : 2 ≤ wide) (iv_a_1 : wide ≤ 6) (iv_a_2 : 2 ≤ high) (iv_a_3 : high ≤ 6) (iv_a_4 : lumps ≤ 6) (iv_a_5 : boats ≤ 6) (h6 : boats < 6) (c1 : 6 ≤ boats) : boatCellsF = upd boatCellsF boats x := by
  first
    | assumption
    | (exfalso; omega)
set_option maxRecDepth 20000 in
theorem lf_f_addBoat_4 (a : Nat) (wide : Nat) (high : Nat) (heat : Int32) (cools : Int32) (skinHeat : Int32) (today : Int32) (stirs : Int32) (steps : Int32) (lumps : Nat) (boats : Nat) (thickness : Nat) (lumpNames : Nat) (lumpCells : Nat) (boatNames : Nat) (boatCells : Nat) (loads : Nat) (spoons : Nat) (spoonsLeft : Nat) (depths : Nat) (boatNamesF : Nat → Int64) (boatCellsF : Nat → Int32) (loadsF : Nat → Int32) (spoonsF : Nat → Int32) (spoonsLeftF : Nat → Int32) (depthsF : Nat → Int32) (name : Int64) (x : Int32) (y : Int32) (z : Int32) (iv_a_0 : 2 ≤ wide) (iv_a_1 : wide ≤ 6) (iv_a_2 : 2 ≤ high) (iv_a_3 : high ≤ 6) (iv_a_4 : lumps ≤ 6) (iv_a_5 : boats ≤ 6) (h6 : boats < 6) (c1 : 6 ≤ boats) : loadsF = upd loadsF boats y := by
  first
    | assumption
    | (exfalso; omega)
set_option maxRecDepth 20000 in
theorem lf_f_addBoat_5 (a : Nat) (wide : Nat) (high : Nat) (heat : Int32) (cools : Int32) (skinHeat : Int32) (today : Int32) (stirs : Int32) (steps : Int32) (lumps : Nat) (boats : Nat) (thickness : Nat) (lumpNames : Nat) (lumpCells : Nat) (boatNames : Nat) (boatCells : Nat) (loads : Nat) (spoons : Nat) (spoonsLeft : Nat) (depths : Nat) (boatNamesF : Nat → Int64) (boatCellsF : Nat → Int32) (loadsF : Nat → Int32) (spoonsF : Nat → Int32) (spoonsLeftF : Nat → Int32) (depthsF : Nat → Int32) (name : Int64) (x : Int32) (y : Int32) (z : Int32) (iv_a_0 : 2 ≤ wide) (iv_a_1 : wide ≤ 6) (iv_a_2 : 2 ≤ high) (iv_a_3 : high ≤ 6) (iv_a_4 : lumps ≤ 6) (iv_a_5 : boats ≤ 6) (h6 : boats < 6) (c1 : 6 ≤ boats) : spoonsF = upd spoonsF boats z := by
  first
    | assumption
    | (exfalso; omega)
set_option maxRecDepth 20000 in
theorem lf_f_addBoat_6 (boats : Nat) (boatNamesF : Nat → Int64) (boatCellsF : Nat → Int32) (loadsF : Nat → Int32) (spoonsF : Nat → Int32) (spoonsLeftF : Nat → Int32) (depthsF : Nat → Int32) (name : Int64) (x : Int32) (y : Int32) (z : Int32) (g2 : Nat → Int64) (g4 : Nat → Int32) (g6 : Nat → Int32) (g8 : Nat → Int32) (g10 : Nat → Int32) (g12 : Nat → Int32) (iv_a_5 : boats ≤ 6) (h6 : boats < 6) (c1 : boats < 6) (e3 : g2 = vp_updL boatNamesF boats name) (e5 : g4 = upd boatCellsF boats x) (e7 : g6 = upd loadsF boats y) (e9 : g8 = upd spoonsF boats z) (e11 : g10 = upd spoonsLeftF boats z) (e13 : g12 = upd depthsF boats (nI 0)) : (boats + 1) ≤ 6 := by
  have b_x := ia_b x
  have b_y := ia_b y
  have b_z := ia_b z
  have b_name := Int64.toInt_lt name
  try have k_0 := ia_n 0 (by first | decide | omega)
  try simp only [ia_lt, ia_le, ia_eq, ia_m1, ia_0, ia_1, ne_eq, true_and, and_true, false_and, and_false, or_false, false_or, or_true, true_or, not_true_eq_false, not_false_eq_true] at *
  all_goals omega
set_option maxHeartbeats 4000000 in
set_option maxRecDepth 100000 in
theorem c_f_addBoat (l : Launch) (dC : Nat → ClassId) (dI : Nat → Nat → Nat) (ky : Nat → ClassId) (sz : Nat) (a : Nat) (wide : Nat) (high : Nat) (heat : Int32) (cools : Int32) (skinHeat : Int32) (today : Int32) (stirs : Int32) (steps : Int32) (lumps : Nat) (boats : Nat) (thickness : Nat) (lumpNames : Nat) (lumpCells : Nat) (boatNames : Nat) (boatCells : Nat) (loads : Nat) (spoons : Nat) (spoonsLeft : Nat) (depths : Nat) (boatNamesF : Nat → Int64) (boatCellsF : Nat → Int32) (loadsF : Nat → Int32) (spoonsF : Nat → Int32) (spoonsLeftF : Nat → Int32) (depthsF : Nat → Int32) (name : Int64) (x : Int32) (y : Int32) (z : Int32) (iv_a_0 : 2 ≤ wide) (iv_a_1 : wide ≤ 6) (iv_a_2 : 2 ≤ high) (iv_a_3 : high ≤ 6) (iv_a_4 : lumps ≤ 6) (iv_a_5 : boats ≤ 6) (h6 : boats < 6) : Met l yX7_addBoat wsX7_addBoat ({ frames := 0, cells := 0, slots := 0, locals := 0 }) (PcU dC dI ky [.ref a, .long name, .int x, .int y, .int z] [(a, .inr (7, [.int (nI wide), .int (nI high), .int heat, .int cools, .int skinHeat, .int today, .int stirs, .int steps, .int (nI lumps), .int (nI boats), .ref thickness, .ref lumpNames, .ref lumpCells, .ref boatNames, .ref boatCells, .ref loads, .ref spoons, .ref spoonsLeft, .ref depths])), (boatNames, .inl (ky 1, 6, .inr (.inl boatNamesF))), (boatCells, .inl (ky 0, 6, .inl boatCellsF)), (loads, .inl (ky 0, 6, .inl loadsF)), (spoons, .inl (ky 0, 6, .inl spoonsF)), (spoonsLeft, .inl (ky 0, 6, .inl spoonsLeftF)), (depths, .inl (ky 0, 6, .inl depthsF))] sz) (va_Qv (fun (u : Nat × (Nat → Int64) × (Nat → Int32) × (Nat → Int32) × (Nat → Int32) × (Nat → Int32) × (Nat → Int32)) => match u with | (boatsG, boatNamesG, boatCellsG, loadsG, spoonsG, spoonsLeftG, depthsG) => (boatsG ≤ 6) ∧ (boatsG = boats + 1) ∧ (boatNamesG = vp_updL boatNamesF boats name) ∧ (boatCellsG = upd boatCellsF boats x) ∧ (loadsG = upd loadsF boats y) ∧ (spoonsG = upd spoonsF boats z)) (BU dC dI ky (fun (u : Nat × (Nat → Int64) × (Nat → Int32) × (Nat → Int32) × (Nat → Int32) × (Nat → Int32) × (Nat → Int32)) => match u with | (boatsG, boatNamesG, boatCellsG, loadsG, spoonsG, spoonsLeftG, depthsG) => [(a, .inr (7, [.int (nI wide), .int (nI high), .int heat, .int cools, .int skinHeat, .int today, .int stirs, .int steps, .int (nI lumps), .int (nI boatsG), .ref thickness, .ref lumpNames, .ref lumpCells, .ref boatNames, .ref boatCells, .ref loads, .ref spoons, .ref spoonsLeft, .ref depths])), (boatNames, .inl (ky 1, 6, .inr (.inl boatNamesG))), (boatCells, .inl (ky 0, 6, .inl boatCellsG)), (loads, .inl (ky 0, 6, .inl loadsG)), (spoons, .inl (ky 0, 6, .inl spoonsG)), (spoonsLeft, .inl (ky 0, 6, .inl spoonsLeftG)), (depths, .inl (ky 0, 6, .inl depthsG))]) (va_A [(a, .inr (7, [.int (nI wide), .int (nI high), .int heat, .int cools, .int skinHeat, .int today, .int stirs, .int steps, .int (nI lumps), .int (nI boats), .ref thickness, .ref lumpNames, .ref lumpCells, .ref boatNames, .ref boatCells, .ref loads, .ref spoons, .ref spoonsLeft, .ref depths])), (boatNames, .inl (ky 1, 6, .inr (.inl boatNamesF))), (boatCells, .inl (ky 0, 6, .inl boatCellsF)), (loads, .inl (ky 0, 6, .inl loadsF)), (spoons, .inl (ky 0, 6, .inl spoonsF)), (spoonsLeft, .inl (ky 0, 6, .inl spoonsLeftF)), (depths, .inl (ky 0, 6, .inl depthsF))] sz)) (va_A [(a, .inr (7, [.int (nI wide), .int (nI high), .int heat, .int cools, .int skinHeat, .int today, .int stirs, .int steps, .int (nI lumps), .int (nI boats), .ref thickness, .ref lumpNames, .ref lumpCells, .ref boatNames, .ref boatCells, .ref loads, .ref spoons, .ref spoonsLeft, .ref depths])), (boatNames, .inl (ky 1, 6, .inr (.inl boatNamesF))), (boatCells, .inl (ky 0, 6, .inl boatCellsF)), (loads, .inl (ky 0, 6, .inl loadsF)), (spoons, .inl (ky 0, 6, .inl spoonsF)), (spoonsLeft, .inl (ky 0, 6, .inl spoonsLeftF)), (depths, .inl (ky 0, 6, .inl depthsF))] sz)) 0 0 (va_A [(a, .inr (7, [.int (nI wide), .int (nI high), .int heat, .int cools, .int skinHeat, .int today, .int stirs, .int steps, .int (nI lumps), .int (nI boats), .ref thickness, .ref lumpNames, .ref lumpCells, .ref boatNames, .ref boatCells, .ref loads, .ref spoons, .ref spoonsLeft, .ref depths])), (boatNames, .inl (ky 1, 6, .inr (.inl boatNamesF))), (boatCells, .inl (ky 0, 6, .inl boatCellsF)), (loads, .inl (ky 0, 6, .inl loadsF)), (spoons, .inl (ky 0, 6, .inl spoonsF)), (spoonsLeft, .inl (ky 0, 6, .inl spoonsLeftF)), (depths, .inl (ky 0, 6, .inl depthsF))] sz) := by
  refine Met.ofW (cc := cX7_addBoat) (maxL := 6) (ret := none) (by decide) rfl ?_
  intro p e s m args below meth c s₁ B hml hv
  obtain ⟨rfl, hsz, hP, hK, hD0⟩ := hv
  have hx := B.exec
  have hb := B.bytes
  have hr := B.returns
  have hts := atoms_spec (ws := wsX7_addBoat) B.pre
  have hown : s.vm.findClass RX7 = some m.cls := findClass_of_methodNamed B.named
  have hlocks := B.notSynchronized
  have hin7 : ∀ w ∈ u_ws RX7 TX7 19, w ∈ wsX7_addBoat := by decide +kernel
  subst hsz
  have hD := hD0.self (sz := s.heap.size)
  generalize hAe : va_A [(a, .inr (7, [.int (nI wide), .int (nI high), .int heat, .int cools, .int skinHeat, .int today, .int stirs, .int steps, .int (nI lumps), .int (nI boats), .ref thickness, .ref lumpNames, .ref lumpCells, .ref boatNames, .ref boatCells, .ref loads, .ref spoons, .ref spoonsLeft, .ref depths])), (boatNames, .inl (ky 1, 6, .inr (.inl boatNamesF))), (boatCells, .inl (ky 0, 6, .inl boatCellsF)), (loads, .inl (ky 0, 6, .inl loadsF)), (spoons, .inl (ky 0, 6, .inl spoonsF)), (spoonsLeft, .inl (ky 0, 6, .inl spoonsLeftF)), (depths, .inl (ky 0, 6, .inl depthsF))] s.heap.size = A at hD ⊢
  have hA : ∀ q : Nat, s.heap.size ≤ q → A q := fun q h => by rw [← hAe]; exact Or.inr h
  have hS : va_S A s.heap s.heap [] := va_S.rf
  have hl := lv_entry ([.ref a, .long name, .int x, .int y, .int z]) (n := 6) (Nat.le_of_ble_eq_true rfl)
  rw [lg_entry_eq]
  generalize (lg_sl ([.ref a, .long name, .int x, .int y, .int z]) ++ List.replicate (6 - (lg_sl ([.ref a, .long name, .int x, .int y, .int z])).length) Slot.unset).toArray = ls at hl ⊢
  have hl : lv_has ls 6 [(0, .ref a), (1, .long name), (3, .int x), (4, .int y), (5, .int z)] := hl
  refine q_name (fun Q hQ => ?_)
  generalize ([.ref a, .long name, .int x, .int y, .int z] : List Value).toArray = args at hts hQ ⊢
  refine lv_aload_n hx hb dX7_addBoat_0 rfl (lv_at hl 0 rfl) ?_
  refine va_get (D := (dC, dI)) (ci := 7) (v := .int (nI boats)) (C := RX7) (T := TX7) (N := 19) hx hb hts hin7 hown hK hP 0 rfl rfl 9 (by decide) (hts (.fieldLink RX7 71 "PorridgeSea$Sea" "boats" "I") (List.mem_of_getElem? (i := 1) rfl)) (fun _ h9 => h9) rfl dX7_addBoat_1 ?_
  refine lv_bipush (v := nI 6) hx hb dX7_addBoat_4 (by decide) ?_
  refine n_icmp_ge (x := boats) (y := 6) (tgt := 82) hx hb (by omega) (by omega) dX7_addBoat_6 (by decide) (fun c1 => ?_) (fun c1 => ?_)
  · rw [hQ]
    exact W.vret hx hb hr (fun t9 ht9 hW9 => ⟨⟨(boats, boatNamesF, boatCellsF, loadsF, spoonsF, spoonsLeftF, depthsF), rfl, ⟨iv_a_5, (lf_f_addBoat_1 a wide high heat cools skinHeat today stirs steps lumps boats thickness lumpNames lumpCells boatNames boatCells loads spoons spoonsLeft depths boatNamesF boatCellsF loadsF spoonsF spoonsLeftF depthsF name x y z iv_a_0 iv_a_1 iv_a_2 iv_a_3 iv_a_4 iv_a_5 h6 c1), (lf_f_addBoat_2 a wide high heat cools skinHeat today stirs steps lumps boats thickness lumpNames lumpCells boatNames boatCells loads spoons spoonsLeft depths boatNamesF boatCellsF loadsF spoonsF spoonsLeftF depthsF name x y z iv_a_0 iv_a_1 iv_a_2 iv_a_3 iv_a_4 iv_a_5 h6 c1), (lf_f_addBoat_3 a wide high heat cools skinHeat today stirs steps lumps boats thickness lumpNames lumpCells boatNames boatCells loads spoons spoonsLeft depths boatNamesF boatCellsF loadsF spoonsF spoonsLeftF depthsF name x y z iv_a_0 iv_a_1 iv_a_2 iv_a_3 iv_a_4 iv_a_5 h6 c1), (lf_f_addBoat_4 a wide high heat cools skinHeat today stirs steps lumps boats thickness lumpNames lumpCells boatNames boatCells loads spoons spoonsLeft depths boatNamesF boatCellsF loadsF spoonsF spoonsLeftF depthsF name x y z iv_a_0 iv_a_1 iv_a_2 iv_a_3 iv_a_4 iv_a_5 h6 c1), (lf_f_addBoat_5 a wide high heat cools skinHeat today stirs steps lumps boats thickness lumpNames lumpCells boatNames boatCells loads spoons spoonsLeft depths boatNamesF boatCellsF loadsF spoonsF spoonsLeftF depthsF name x y z iv_a_0 iv_a_1 iv_a_2 iv_a_3 iv_a_4 iv_a_5 h6 c1)⟩, by rw [ht9]; exact hP, va_K.moved hW9.alike hK, hD⟩, hS.F ht9⟩) hS.2.2 dX7_addBoat_82
  · refine lv_aload_n hx hb dX7_addBoat_9 rfl (lv_at hl 0 rfl) ?_
    refine va_get (D := (dC, dI)) (ci := 7) (v := .ref boatNames) (C := RX7) (T := TX7) (N := 19) hx hb hts hin7 hown hK hP 0 rfl rfl 13 (by decide) (hts (.fieldLink RX7 22 "PorridgeSea$Sea" "boatNames" "[J") (List.mem_of_getElem? (i := 2) rfl)) (fun _ h9 => h9) rfl dX7_addBoat_10 ?_
    refine lv_aload_n hx hb dX7_addBoat_13 rfl (lv_at hl 0 rfl) ?_
    refine va_get (D := (dC, dI)) (ci := 7) (v := .int (nI boats)) (C := RX7) (T := TX7) (N := 19) hx hb hts hin7 hown hK hP 0 rfl rfl 9 (by decide) (hts (.fieldLink RX7 71 "PorridgeSea$Sea" "boats" "I") (List.mem_of_getElem? (i := 1) rfl)) (fun _ h9 => h9) rfl dX7_addBoat_14 ?_
    refine lv_lload_n hx hb dX7_addBoat_17 rfl (lv_at hl 1 rfl) ?_
    refine r_last (x := name) hx hb hK hP hD hS 1 rfl boats (by omega) (by decide) dX7_addBoat_18 (fun H locs hP hD hS => ?_)
    obtain ⟨g2, e3⟩ : ∃ z9, z9 = vp_updL boatNamesF boats name := ⟨_, rfl⟩
    rw [← e3] at hP hD
    have hP : va_P (dC, dI) vwCl [(a, .inr (7, [.int (nI wide), .int (nI high), .int heat, .int cools, .int skinHeat, .int today, .int stirs, .int steps, .int (nI lumps), .int (nI boats), .ref thickness, .ref lumpNames, .ref lumpCells, .ref boatNames, .ref boatCells, .ref loads, .ref spoons, .ref spoonsLeft, .ref depths])), (boatNames, .inl (ky 1, 6, .inr (.inl g2))), (boatCells, .inl (ky 0, 6, .inl boatCellsF)), (loads, .inl (ky 0, 6, .inl loadsF)), (spoons, .inl (ky 0, 6, .inl spoonsF)), (spoonsLeft, .inl (ky 0, 6, .inl spoonsLeftF)), (depths, .inl (ky 0, 6, .inl depthsF))] H := hP
    have hD : va_D A [(a, .inr (7, [.int (nI wide), .int (nI high), .int heat, .int cools, .int skinHeat, .int today, .int stirs, .int steps, .int (nI lumps), .int (nI boats), .ref thickness, .ref lumpNames, .ref lumpCells, .ref boatNames, .ref boatCells, .ref loads, .ref spoons, .ref spoonsLeft, .ref depths])), (boatNames, .inl (ky 1, 6, .inr (.inl g2))), (boatCells, .inl (ky 0, 6, .inl boatCellsF)), (loads, .inl (ky 0, 6, .inl loadsF)), (spoons, .inl (ky 0, 6, .inl spoonsF)), (spoonsLeft, .inl (ky 0, 6, .inl spoonsLeftF)), (depths, .inl (ky 0, 6, .inl depthsF))] := hD
    refine lv_aload_n hx hb dX7_addBoat_19 rfl (lv_at hl 0 rfl) ?_
    refine va_get (D := (dC, dI)) (ci := 7) (v := .ref boatCells) (C := RX7) (T := TX7) (N := 19) hx hb hts hin7 hown hK hP 0 rfl rfl 14 (by decide) (hts (.fieldLink RX7 25 "PorridgeSea$Sea" "boatCells" "[I") (List.mem_of_getElem? (i := 3) rfl)) (fun _ h9 => h9) rfl dX7_addBoat_20 ?_
    refine lv_aload_n hx hb dX7_addBoat_23 rfl (lv_at hl 0 rfl) ?_
    refine va_get (D := (dC, dI)) (ci := 7) (v := .int (nI boats)) (C := RX7) (T := TX7) (N := 19) hx hb hts hin7 hown hK hP 0 rfl rfl 9 (by decide) (hts (.fieldLink RX7 71 "PorridgeSea$Sea" "boats" "I") (List.mem_of_getElem? (i := 1) rfl)) (fun _ h9 => h9) rfl dX7_addBoat_24 ?_
    refine lv_iload_n hx hb dX7_addBoat_27 rfl (lv_at hl 2 rfl) ?_
    refine r_iast (x := x) hx hb hK hP hD hS 2 rfl boats (by omega) (by decide) dX7_addBoat_28 (fun H locs hP hD hS => ?_)
    obtain ⟨g4, e5⟩ : ∃ z9, z9 = upd boatCellsF boats x := ⟨_, rfl⟩
    rw [← e5] at hP hD
    have hP : va_P (dC, dI) vwCl [(a, .inr (7, [.int (nI wide), .int (nI high), .int heat, .int cools, .int skinHeat, .int today, .int stirs, .int steps, .int (nI lumps), .int (nI boats), .ref thickness, .ref lumpNames, .ref lumpCells, .ref boatNames, .ref boatCells, .ref loads, .ref spoons, .ref spoonsLeft, .ref depths])), (boatNames, .inl (ky 1, 6, .inr (.inl g2))), (boatCells, .inl (ky 0, 6, .inl g4)), (loads, .inl (ky 0, 6, .inl loadsF)), (spoons, .inl (ky 0, 6, .inl spoonsF)), (spoonsLeft, .inl (ky 0, 6, .inl spoonsLeftF)), (depths, .inl (ky 0, 6, .inl depthsF))] H := hP
    have hD : va_D A [(a, .inr (7, [.int (nI wide), .int (nI high), .int heat, .int cools, .int skinHeat, .int today, .int stirs, .int steps, .int (nI lumps), .int (nI boats), .ref thickness, .ref lumpNames, .ref lumpCells, .ref boatNames, .ref boatCells, .ref loads, .ref spoons, .ref spoonsLeft, .ref depths])), (boatNames, .inl (ky 1, 6, .inr (.inl g2))), (boatCells, .inl (ky 0, 6, .inl g4)), (loads, .inl (ky 0, 6, .inl loadsF)), (spoons, .inl (ky 0, 6, .inl spoonsF)), (spoonsLeft, .inl (ky 0, 6, .inl spoonsLeftF)), (depths, .inl (ky 0, 6, .inl depthsF))] := hD
    refine lv_aload_n hx hb dX7_addBoat_29 rfl (lv_at hl 0 rfl) ?_
    refine va_get (D := (dC, dI)) (ci := 7) (v := .ref loads) (C := RX7) (T := TX7) (N := 19) hx hb hts hin7 hown hK hP 0 rfl rfl 15 (by decide) (hts (.fieldLink RX7 28 "PorridgeSea$Sea" "loads" "[I") (List.mem_of_getElem? (i := 4) rfl)) (fun _ h9 => h9) rfl dX7_addBoat_30 ?_
    refine lv_aload_n hx hb dX7_addBoat_33 rfl (lv_at hl 0 rfl) ?_
    refine va_get (D := (dC, dI)) (ci := 7) (v := .int (nI boats)) (C := RX7) (T := TX7) (N := 19) hx hb hts hin7 hown hK hP 0 rfl rfl 9 (by decide) (hts (.fieldLink RX7 71 "PorridgeSea$Sea" "boats" "I") (List.mem_of_getElem? (i := 1) rfl)) (fun _ h9 => h9) rfl dX7_addBoat_34 ?_
    refine lv_iload hx hb dX7_addBoat_37 (lv_at hl 3 rfl) ?_
    refine r_iast (x := y) hx hb hK hP hD hS 3 rfl boats (by omega) (by decide) dX7_addBoat_39 (fun H locs hP hD hS => ?_)
    obtain ⟨g6, e7⟩ : ∃ z9, z9 = upd loadsF boats y := ⟨_, rfl⟩
    rw [← e7] at hP hD
    have hP : va_P (dC, dI) vwCl [(a, .inr (7, [.int (nI wide), .int (nI high), .int heat, .int cools, .int skinHeat, .int today, .int stirs, .int steps, .int (nI lumps), .int (nI boats), .ref thickness, .ref lumpNames, .ref lumpCells, .ref boatNames, .ref boatCells, .ref loads, .ref spoons, .ref spoonsLeft, .ref depths])), (boatNames, .inl (ky 1, 6, .inr (.inl g2))), (boatCells, .inl (ky 0, 6, .inl g4)), (loads, .inl (ky 0, 6, .inl g6)), (spoons, .inl (ky 0, 6, .inl spoonsF)), (spoonsLeft, .inl (ky 0, 6, .inl spoonsLeftF)), (depths, .inl (ky 0, 6, .inl depthsF))] H := hP
    have hD : va_D A [(a, .inr (7, [.int (nI wide), .int (nI high), .int heat, .int cools, .int skinHeat, .int today, .int stirs, .int steps, .int (nI lumps), .int (nI boats), .ref thickness, .ref lumpNames, .ref lumpCells, .ref boatNames, .ref boatCells, .ref loads, .ref spoons, .ref spoonsLeft, .ref depths])), (boatNames, .inl (ky 1, 6, .inr (.inl g2))), (boatCells, .inl (ky 0, 6, .inl g4)), (loads, .inl (ky 0, 6, .inl g6)), (spoons, .inl (ky 0, 6, .inl spoonsF)), (spoonsLeft, .inl (ky 0, 6, .inl spoonsLeftF)), (depths, .inl (ky 0, 6, .inl depthsF))] := hD
    refine lv_aload_n hx hb dX7_addBoat_40 rfl (lv_at hl 0 rfl) ?_
    refine va_get (D := (dC, dI)) (ci := 7) (v := .ref spoons) (C := RX7) (T := TX7) (N := 19) hx hb hts hin7 hown hK hP 0 rfl rfl 16 (by decide) (hts (.fieldLink RX7 31 "PorridgeSea$Sea" "spoons" "[I") (List.mem_of_getElem? (i := 5) rfl)) (fun _ h9 => h9) rfl dX7_addBoat_41 ?_
    refine lv_aload_n hx hb dX7_addBoat_44 rfl (lv_at hl 0 rfl) ?_
    refine va_get (D := (dC, dI)) (ci := 7) (v := .int (nI boats)) (C := RX7) (T := TX7) (N := 19) hx hb hts hin7 hown hK hP 0 rfl rfl 9 (by decide) (hts (.fieldLink RX7 71 "PorridgeSea$Sea" "boats" "I") (List.mem_of_getElem? (i := 1) rfl)) (fun _ h9 => h9) rfl dX7_addBoat_45 ?_
    refine lv_iload hx hb dX7_addBoat_48 (lv_at hl 4 rfl) ?_
    refine r_iast (x := z) hx hb hK hP hD hS 4 rfl boats (by omega) (by decide) dX7_addBoat_50 (fun H locs hP hD hS => ?_)
    obtain ⟨g8, e9⟩ : ∃ z9, z9 = upd spoonsF boats z := ⟨_, rfl⟩
    rw [← e9] at hP hD
    have hP : va_P (dC, dI) vwCl [(a, .inr (7, [.int (nI wide), .int (nI high), .int heat, .int cools, .int skinHeat, .int today, .int stirs, .int steps, .int (nI lumps), .int (nI boats), .ref thickness, .ref lumpNames, .ref lumpCells, .ref boatNames, .ref boatCells, .ref loads, .ref spoons, .ref spoonsLeft, .ref depths])), (boatNames, .inl (ky 1, 6, .inr (.inl g2))), (boatCells, .inl (ky 0, 6, .inl g4)), (loads, .inl (ky 0, 6, .inl g6)), (spoons, .inl (ky 0, 6, .inl g8)), (spoonsLeft, .inl (ky 0, 6, .inl spoonsLeftF)), (depths, .inl (ky 0, 6, .inl depthsF))] H := hP
    have hD : va_D A [(a, .inr (7, [.int (nI wide), .int (nI high), .int heat, .int cools, .int skinHeat, .int today, .int stirs, .int steps, .int (nI lumps), .int (nI boats), .ref thickness, .ref lumpNames, .ref lumpCells, .ref boatNames, .ref boatCells, .ref loads, .ref spoons, .ref spoonsLeft, .ref depths])), (boatNames, .inl (ky 1, 6, .inr (.inl g2))), (boatCells, .inl (ky 0, 6, .inl g4)), (loads, .inl (ky 0, 6, .inl g6)), (spoons, .inl (ky 0, 6, .inl g8)), (spoonsLeft, .inl (ky 0, 6, .inl spoonsLeftF)), (depths, .inl (ky 0, 6, .inl depthsF))] := hD
    refine lv_aload_n hx hb dX7_addBoat_51 rfl (lv_at hl 0 rfl) ?_
    refine va_get (D := (dC, dI)) (ci := 7) (v := .ref spoonsLeft) (C := RX7) (T := TX7) (N := 19) hx hb hts hin7 hown hK hP 0 rfl rfl 17 (by decide) (hts (.fieldLink RX7 34 "PorridgeSea$Sea" "spoonsLeft" "[I") (List.mem_of_getElem? (i := 6) rfl)) (fun _ h9 => h9) rfl dX7_addBoat_52 ?_
    refine lv_aload_n hx hb dX7_addBoat_55 rfl (lv_at hl 0 rfl) ?_
    refine va_get (D := (dC, dI)) (ci := 7) (v := .int (nI boats)) (C := RX7) (T := TX7) (N := 19) hx hb hts hin7 hown hK hP 0 rfl rfl 9 (by decide) (hts (.fieldLink RX7 71 "PorridgeSea$Sea" "boats" "I") (List.mem_of_getElem? (i := 1) rfl)) (fun _ h9 => h9) rfl dX7_addBoat_56 ?_
    refine lv_iload hx hb dX7_addBoat_59 (lv_at hl 4 rfl) ?_
    refine r_iast (x := z) hx hb hK hP hD hS 5 rfl boats (by omega) (by decide) dX7_addBoat_61 (fun H locs hP hD hS => ?_)
    obtain ⟨g10, e11⟩ : ∃ z9, z9 = upd spoonsLeftF boats z := ⟨_, rfl⟩
    rw [← e11] at hP hD
    have hP : va_P (dC, dI) vwCl [(a, .inr (7, [.int (nI wide), .int (nI high), .int heat, .int cools, .int skinHeat, .int today, .int stirs, .int steps, .int (nI lumps), .int (nI boats), .ref thickness, .ref lumpNames, .ref lumpCells, .ref boatNames, .ref boatCells, .ref loads, .ref spoons, .ref spoonsLeft, .ref depths])), (boatNames, .inl (ky 1, 6, .inr (.inl g2))), (boatCells, .inl (ky 0, 6, .inl g4)), (loads, .inl (ky 0, 6, .inl g6)), (spoons, .inl (ky 0, 6, .inl g8)), (spoonsLeft, .inl (ky 0, 6, .inl g10)), (depths, .inl (ky 0, 6, .inl depthsF))] H := hP
    have hD : va_D A [(a, .inr (7, [.int (nI wide), .int (nI high), .int heat, .int cools, .int skinHeat, .int today, .int stirs, .int steps, .int (nI lumps), .int (nI boats), .ref thickness, .ref lumpNames, .ref lumpCells, .ref boatNames, .ref boatCells, .ref loads, .ref spoons, .ref spoonsLeft, .ref depths])), (boatNames, .inl (ky 1, 6, .inr (.inl g2))), (boatCells, .inl (ky 0, 6, .inl g4)), (loads, .inl (ky 0, 6, .inl g6)), (spoons, .inl (ky 0, 6, .inl g8)), (spoonsLeft, .inl (ky 0, 6, .inl g10)), (depths, .inl (ky 0, 6, .inl depthsF))] := hD
    refine lv_aload_n hx hb dX7_addBoat_62 rfl (lv_at hl 0 rfl) ?_
    refine va_get (D := (dC, dI)) (ci := 7) (v := .ref depths) (C := RX7) (T := TX7) (N := 19) hx hb hts hin7 hown hK hP 0 rfl rfl 18 (by decide) (hts (.fieldLink RX7 37 "PorridgeSea$Sea" "depths" "[I") (List.mem_of_getElem? (i := 7) rfl)) (fun _ h9 => h9) rfl dX7_addBoat_63 ?_
    refine lv_aload_n hx hb dX7_addBoat_66 rfl (lv_at hl 0 rfl) ?_
    refine va_get (D := (dC, dI)) (ci := 7) (v := .int (nI boats)) (C := RX7) (T := TX7) (N := 19) hx hb hts hin7 hown hK hP 0 rfl rfl 9 (by decide) (hts (.fieldLink RX7 71 "PorridgeSea$Sea" "boats" "I") (List.mem_of_getElem? (i := 1) rfl)) (fun _ h9 => h9) rfl dX7_addBoat_67 ?_
    refine lv_iconst (v := nI 0) hx hb dX7_addBoat_70 (by decide) ?_
    refine r_iast (x := (nI 0)) hx hb hK hP hD hS 6 rfl boats (by omega) (by decide) dX7_addBoat_71 (fun H locs hP hD hS => ?_)
    obtain ⟨g12, e13⟩ : ∃ z9, z9 = upd depthsF boats (nI 0) := ⟨_, rfl⟩
    rw [← e13] at hP hD
    have hP : va_P (dC, dI) vwCl [(a, .inr (7, [.int (nI wide), .int (nI high), .int heat, .int cools, .int skinHeat, .int today, .int stirs, .int steps, .int (nI lumps), .int (nI boats), .ref thickness, .ref lumpNames, .ref lumpCells, .ref boatNames, .ref boatCells, .ref loads, .ref spoons, .ref spoonsLeft, .ref depths])), (boatNames, .inl (ky 1, 6, .inr (.inl g2))), (boatCells, .inl (ky 0, 6, .inl g4)), (loads, .inl (ky 0, 6, .inl g6)), (spoons, .inl (ky 0, 6, .inl g8)), (spoonsLeft, .inl (ky 0, 6, .inl g10)), (depths, .inl (ky 0, 6, .inl g12))] H := hP
    have hD : va_D A [(a, .inr (7, [.int (nI wide), .int (nI high), .int heat, .int cools, .int skinHeat, .int today, .int stirs, .int steps, .int (nI lumps), .int (nI boats), .ref thickness, .ref lumpNames, .ref lumpCells, .ref boatNames, .ref boatCells, .ref loads, .ref spoons, .ref spoonsLeft, .ref depths])), (boatNames, .inl (ky 1, 6, .inr (.inl g2))), (boatCells, .inl (ky 0, 6, .inl g4)), (loads, .inl (ky 0, 6, .inl g6)), (spoons, .inl (ky 0, 6, .inl g8)), (spoonsLeft, .inl (ky 0, 6, .inl g10)), (depths, .inl (ky 0, 6, .inl g12))] := hD
    refine lv_aload_n hx hb dX7_addBoat_72 rfl (lv_at hl 0 rfl) ?_
    refine lv_dup hx hb dX7_addBoat_73 rfl ?_
    refine va_get (D := (dC, dI)) (ci := 7) (v := .int (nI boats)) (C := RX7) (T := TX7) (N := 19) hx hb hts hin7 hown hK hP 0 rfl rfl 9 (by decide) (hts (.fieldLink RX7 71 "PorridgeSea$Sea" "boats" "I") (List.mem_of_getElem? (i := 1) rfl)) (fun _ h9 => h9) rfl dX7_addBoat_74 ?_
    refine lv_iconst (v := nI 1) hx hb dX7_addBoat_77 (by decide) ?_
    refine lv_iadd hx hb dX7_addBoat_78 ?_
    refine r_ti (nI (boats + 1)) (nI_add _ _) ?_
    refine va_put (D := (dC, dI)) (ci := 7) (v := .int (nI (boats + 1))) (ty := .int) (C := RX7) (T := TX7) (N := 19) hx hb hts hin7 tyX7 tyX7_ok nmX7 hown hK hP hD hS 0 rfl rfl 9 (by decide) (hts (.fieldLink RX7 71 "PorridgeSea$Sea" "boats" "I") (List.mem_of_getElem? (i := 1) rfl)) (fun _ h9 => h9) rfl (by decide +kernel) rfl rfl (Nat.le_of_ble_eq_true rfl) dX7_addBoat_79 (fun H locs hP hD hS => ?_)
    have hP : va_P (dC, dI) vwCl [(a, .inr (7, [.int (nI wide), .int (nI high), .int heat, .int cools, .int skinHeat, .int today, .int stirs, .int steps, .int (nI lumps), .int (nI (boats + 1)), .ref thickness, .ref lumpNames, .ref lumpCells, .ref boatNames, .ref boatCells, .ref loads, .ref spoons, .ref spoonsLeft, .ref depths])), (boatNames, .inl (ky 1, 6, .inr (.inl g2))), (boatCells, .inl (ky 0, 6, .inl g4)), (loads, .inl (ky 0, 6, .inl g6)), (spoons, .inl (ky 0, 6, .inl g8)), (spoonsLeft, .inl (ky 0, 6, .inl g10)), (depths, .inl (ky 0, 6, .inl g12))] H := hP
    have hD : va_D A [(a, .inr (7, [.int (nI wide), .int (nI high), .int heat, .int cools, .int skinHeat, .int today, .int stirs, .int steps, .int (nI lumps), .int (nI (boats + 1)), .ref thickness, .ref lumpNames, .ref lumpCells, .ref boatNames, .ref boatCells, .ref loads, .ref spoons, .ref spoonsLeft, .ref depths])), (boatNames, .inl (ky 1, 6, .inr (.inl g2))), (boatCells, .inl (ky 0, 6, .inl g4)), (loads, .inl (ky 0, 6, .inl g6)), (spoons, .inl (ky 0, 6, .inl g8)), (spoonsLeft, .inl (ky 0, 6, .inl g10)), (depths, .inl (ky 0, 6, .inl g12))] := hD
    rw [hQ]
    exact W.vret hx hb hr (fun t9 ht9 hW9 => ⟨⟨((boats + 1), g2, g4, g6, g8, g10, g12), rfl, ⟨(lf_f_addBoat_6 boats boatNamesF boatCellsF loadsF spoonsF spoonsLeftF depthsF name x y z g2 g4 g6 g8 g10 g12 iv_a_5 h6 c1 e3 e5 e7 e9 e11 e13), rfl, e3, e5, e7, e9⟩, by rw [ht9]; exact hP, va_K.moved hW9.alike hK, hD⟩, hS.F ht9⟩) hS.2.2 dX7_addBoat_82
set_option maxRecDepth 20000 in
theorem lf_f_empty_1   : 2 ≤ 4 := by
  try simp only [ia_lt, ia_le, ia_eq, ia_m1, ia_0, ia_1, ne_eq, true_and, and_true, false_and, and_false, or_false, false_or, or_true, true_or, not_true_eq_false, not_false_eq_true] at *
  all_goals omega
set_option maxRecDepth 20000 in
theorem lf_f_empty_2   : 4 ≤ 6 := by
  try simp only [ia_lt, ia_le, ia_eq, ia_m1, ia_0, ia_1, ne_eq, true_and, and_true, false_and, and_false, or_false, false_or, or_true, true_or, not_true_eq_false, not_false_eq_true] at *
  all_goals omega
set_option maxRecDepth 20000 in
theorem lf_f_empty_3   : 2 ≤ 4 := by
  try simp only [ia_lt, ia_le, ia_eq, ia_m1, ia_0, ia_1, ne_eq, true_and, and_true, false_and, and_false, or_false, false_or, or_true, true_or, not_true_eq_false, not_false_eq_true] at *
  all_goals omega
set_option maxRecDepth 20000 in
theorem lf_f_empty_4   : 4 ≤ 6 := by
  try simp only [ia_lt, ia_le, ia_eq, ia_m1, ia_0, ia_1, ne_eq, true_and, and_true, false_and, and_false, or_false, false_or, or_true, true_or, not_true_eq_false, not_false_eq_true] at *
  all_goals omega
set_option maxRecDepth 20000 in
theorem lf_f_empty_5   : 0 ≤ 6 := by
  try simp only [ia_lt, ia_le, ia_eq, ia_m1, ia_0, ia_1, ne_eq, true_and, and_true, false_and, and_false, or_false, false_or, or_true, true_or, not_true_eq_false, not_false_eq_true] at *
  all_goals omega
set_option maxRecDepth 20000 in
theorem lf_f_empty_6   : 0 ≤ 6 := by
  try simp only [ia_lt, ia_le, ia_eq, ia_m1, ia_0, ia_1, ne_eq, true_and, and_true, false_and, and_false, or_false, false_or, or_true, true_or, not_true_eq_false, not_false_eq_true] at *
  all_goals omega
set_option maxRecDepth 20000 in
theorem lf_f_empty_7 (k7 : Nat) (f8 : Nat → Int32) (n11 : Nat) (j9 : k7 ≤ 36) (jE : ∀ c, c < k7 → f8 c = nI 0) (hm13 : 36 - k7 < n11 + 1) (c14 : 36 ≤ k7) : ∀ c, c < 36 → f8 c = nI 0 := by
  intro c hc; exact jE c (by omega)
set_option maxRecDepth 20000 in
theorem lf_f_empty_8 (k7 : Nat) (f8 : Nat → Int32) (n11 : Nat) (g15 : Nat → Int32) (j9 : k7 ≤ 36) (jE : ∀ c, c < k7 → f8 c = nI 0) (hm13 : 36 - k7 < n11 + 1) (c14 : k7 < 36) (e16 : g15 = upd f8 k7 (nI 0)) : (k7 + 1) ≤ 36 := by
  try have k_0 := ia_n 0 (by first | decide | omega)
  try simp only [ia_lt, ia_le, ia_eq, ia_m1, ia_0, ia_1, ne_eq, true_and, and_true, false_and, and_false, or_false, false_or, or_true, true_or, not_true_eq_false, not_false_eq_true] at *
  all_goals omega
set_option maxRecDepth 20000 in
theorem lf_f_empty_9 (k7 : Nat) (f8 : Nat → Int32) (n11 : Nat) (g15 : Nat → Int32) (j9 : k7 ≤ 36) (jE : ∀ c, c < k7 → f8 c = nI 0) (hm13 : 36 - k7 < n11 + 1) (c14 : k7 < 36) (e16 : g15 = upd f8 k7 (nI 0)) : ∀ c, c < (k7 + 1) → g15 c = nI 0 := by
  intro c hc
  subst_vars
  unfold upd
  by_cases q : c = k7
  · rw [if_pos q]
  · rw [if_neg q]; exact jE c (by omega)
set_option maxRecDepth 20000 in
theorem lf_f_empty_10 (k7 : Nat) (f8 : Nat → Int32) (n11 : Nat) (g15 : Nat → Int32) (j9 : k7 ≤ 36) (jE : ∀ c, c < k7 → f8 c = nI 0) (hm13 : 36 - k7 < n11 + 1) (c14 : k7 < 36) (e16 : g15 = upd f8 k7 (nI 0)) : 36 - (k7 + 1) < n11 := by
  try have k_0 := ia_n 0 (by first | decide | omega)
  try simp only [ia_lt, ia_le, ia_eq, ia_m1, ia_0, ia_1, ne_eq, true_and, and_true, false_and, and_false, or_false, false_or, or_true, true_or, not_true_eq_false, not_false_eq_true] at *
  all_goals omega
set_option maxRecDepth 20000 in
theorem lf_f_empty_11   : 0 ≤ 36 := by
  try simp only [ia_lt, ia_le, ia_eq, ia_m1, ia_0, ia_1, ne_eq, true_and, and_true, false_and, and_false, or_false, false_or, or_true, true_or, not_true_eq_false, not_false_eq_true] at *
  all_goals omega
set_option maxRecDepth 20000 in
theorem lf_f_empty_12 (thicknessF : Nat → Int32)  : ∀ c, c < 0 → thicknessF c = nI 0 := by
  intro c hc; exact absurd hc (Nat.not_lt_zero c)
set_option maxHeartbeats 4000000 in
set_option maxRecDepth 100000 in
theorem c_f_empty (l : Launch) (dC : Nat → ClassId) (dI : Nat → Nat → Nat) (ky : Nat → ClassId) (sz : Nat) (a : Nat) (wide : Nat) (high : Nat) (heat : Int32) (cools : Int32) (skinHeat : Int32) (today : Int32) (stirs : Int32) (steps : Int32) (lumps : Nat) (boats : Nat) (thickness : Nat) (lumpNames : Nat) (lumpCells : Nat) (boatNames : Nat) (boatCells : Nat) (loads : Nat) (spoons : Nat) (spoonsLeft : Nat) (depths : Nat) (thicknessF : Nat → Int32) (iv_a_0 : 2 ≤ wide) (iv_a_1 : wide ≤ 6) (iv_a_2 : 2 ≤ high) (iv_a_3 : high ≤ 6) (iv_a_4 : lumps ≤ 6) (iv_a_5 : boats ≤ 6) : Met l yX7_empty wsX7_empty ({ frames := 0, cells := 0, slots := 0, locals := 0 }) (PcU dC dI ky [.ref a] [(a, .inr (7, [.int (nI wide), .int (nI high), .int heat, .int cools, .int skinHeat, .int today, .int stirs, .int steps, .int (nI lumps), .int (nI boats), .ref thickness, .ref lumpNames, .ref lumpCells, .ref boatNames, .ref boatCells, .ref loads, .ref spoons, .ref spoonsLeft, .ref depths])), (thickness, .inl (ky 0, 36, .inl thicknessF))] sz) (va_Qv (fun (u : Nat × Nat × Int32 × Int32 × Int32 × Int32 × Int32 × Int32 × Nat × Nat × (Nat → Int32)) => match u with | (wideG, highG, heatG, coolsG, skinHeatG, todayG, stirsG, stepsG, lumpsG, boatsG, thicknessG) => (2 ≤ wideG) ∧ (wideG ≤ 6) ∧ (2 ≤ highG) ∧ (highG ≤ 6) ∧ (lumpsG ≤ 6) ∧ (boatsG ≤ 6) ∧ (wideG = 4) ∧ (highG = 4) ∧ (heatG = nI 10) ∧ (coolsG = nI 1) ∧ (skinHeatG = nI 3) ∧ (lumpsG = 0) ∧ (boatsG = 0) ∧ (∀ c, c < 36 → thicknessG c = nI 0)) (BU dC dI ky (fun (u : Nat × Nat × Int32 × Int32 × Int32 × Int32 × Int32 × Int32 × Nat × Nat × (Nat → Int32)) => match u with | (wideG, highG, heatG, coolsG, skinHeatG, todayG, stirsG, stepsG, lumpsG, boatsG, thicknessG) => [(a, .inr (7, [.int (nI wideG), .int (nI highG), .int heatG, .int coolsG, .int skinHeatG, .int todayG, .int stirsG, .int stepsG, .int (nI lumpsG), .int (nI boatsG), .ref thickness, .ref lumpNames, .ref lumpCells, .ref boatNames, .ref boatCells, .ref loads, .ref spoons, .ref spoonsLeft, .ref depths])), (thickness, .inl (ky 0, 36, .inl thicknessG))]) (va_A [(a, .inr (7, [.int (nI wide), .int (nI high), .int heat, .int cools, .int skinHeat, .int today, .int stirs, .int steps, .int (nI lumps), .int (nI boats), .ref thickness, .ref lumpNames, .ref lumpCells, .ref boatNames, .ref boatCells, .ref loads, .ref spoons, .ref spoonsLeft, .ref depths])), (thickness, .inl (ky 0, 36, .inl thicknessF))] sz)) (va_A [(a, .inr (7, [.int (nI wide), .int (nI high), .int heat, .int cools, .int skinHeat, .int today, .int stirs, .int steps, .int (nI lumps), .int (nI boats), .ref thickness, .ref lumpNames, .ref lumpCells, .ref boatNames, .ref boatCells, .ref loads, .ref spoons, .ref spoonsLeft, .ref depths])), (thickness, .inl (ky 0, 36, .inl thicknessF))] sz)) 0 0 (va_A [(a, .inr (7, [.int (nI wide), .int (nI high), .int heat, .int cools, .int skinHeat, .int today, .int stirs, .int steps, .int (nI lumps), .int (nI boats), .ref thickness, .ref lumpNames, .ref lumpCells, .ref boatNames, .ref boatCells, .ref loads, .ref spoons, .ref spoonsLeft, .ref depths])), (thickness, .inl (ky 0, 36, .inl thicknessF))] sz) := by
  refine Met.ofW (cc := cX7_empty) (maxL := 2) (ret := none) (by decide) rfl ?_
  intro p e s m args below meth c s₁ B hml hv
  obtain ⟨rfl, hsz, hP, hK, hD0⟩ := hv
  have hx := B.exec
  have hb := B.bytes
  have hr := B.returns
  have hts := atoms_spec (ws := wsX7_empty) B.pre
  have hown : s.vm.findClass RX7 = some m.cls := findClass_of_methodNamed B.named
  have hlocks := B.notSynchronized
  have hin7 : ∀ w ∈ u_ws RX7 TX7 19, w ∈ wsX7_empty := by decide +kernel
  subst hsz
  have hD := hD0.self (sz := s.heap.size)
  generalize hAe : va_A [(a, .inr (7, [.int (nI wide), .int (nI high), .int heat, .int cools, .int skinHeat, .int today, .int stirs, .int steps, .int (nI lumps), .int (nI boats), .ref thickness, .ref lumpNames, .ref lumpCells, .ref boatNames, .ref boatCells, .ref loads, .ref spoons, .ref spoonsLeft, .ref depths])), (thickness, .inl (ky 0, 36, .inl thicknessF))] s.heap.size = A at hD ⊢
  have hA : ∀ q : Nat, s.heap.size ≤ q → A q := fun q h => by rw [← hAe]; exact Or.inr h
  have hS : va_S A s.heap s.heap [] := va_S.rf
  have hl := lv_entry ([.ref a]) (n := 2) (Nat.le_of_ble_eq_true rfl)
  rw [lg_entry_eq]
  generalize (lg_sl ([.ref a]) ++ List.replicate (2 - (lg_sl ([.ref a])).length) Slot.unset).toArray = ls at hl ⊢
  have hl : lv_has ls 2 [(0, .ref a)] := hl
  refine q_name (fun Q hQ => ?_)
  generalize ([.ref a] : List Value).toArray = args at hts hQ ⊢
  refine lv_aload_n hx hb dX7_empty_0 rfl (lv_at hl 0 rfl) ?_
  refine lv_iconst (v := nI 4) hx hb dX7_empty_1 (by decide) ?_
  refine va_put (D := (dC, dI)) (ci := 7) (v := .int (nI 4)) (ty := .int) (C := RX7) (T := TX7) (N := 19) hx hb hts hin7 tyX7 tyX7_ok nmX7 hown hK hP hD hS 0 rfl rfl 0 (by decide) (hts (.fieldLink RX7 43 "PorridgeSea$Sea" "wide" "I") (List.mem_of_getElem? (i := 1) rfl)) (fun _ h9 => h9) rfl (by decide +kernel) rfl rfl (Nat.le_of_ble_eq_true rfl) dX7_empty_2 (fun H locs hP hD hS => ?_)
  have hP : va_P (dC, dI) vwCl [(a, .inr (7, [.int (nI 4), .int (nI high), .int heat, .int cools, .int skinHeat, .int today, .int stirs, .int steps, .int (nI lumps), .int (nI boats), .ref thickness, .ref lumpNames, .ref lumpCells, .ref boatNames, .ref boatCells, .ref loads, .ref spoons, .ref spoonsLeft, .ref depths])), (thickness, .inl (ky 0, 36, .inl thicknessF))] H := hP
  have hD : va_D A [(a, .inr (7, [.int (nI 4), .int (nI high), .int heat, .int cools, .int skinHeat, .int today, .int stirs, .int steps, .int (nI lumps), .int (nI boats), .ref thickness, .ref lumpNames, .ref lumpCells, .ref boatNames, .ref boatCells, .ref loads, .ref spoons, .ref spoonsLeft, .ref depths])), (thickness, .inl (ky 0, 36, .inl thicknessF))] := hD
  refine lv_aload_n hx hb dX7_empty_5 rfl (lv_at hl 0 rfl) ?_
  refine lv_iconst (v := nI 4) hx hb dX7_empty_6 (by decide) ?_
  refine va_put (D := (dC, dI)) (ci := 7) (v := .int (nI 4)) (ty := .int) (C := RX7) (T := TX7) (N := 19) hx hb hts hin7 tyX7 tyX7_ok nmX7 hown hK hP hD hS 0 rfl rfl 1 (by decide) (hts (.fieldLink RX7 47 "PorridgeSea$Sea" "high" "I") (List.mem_of_getElem? (i := 2) rfl)) (fun _ h9 => h9) rfl (by decide +kernel) rfl rfl (Nat.le_of_ble_eq_true rfl) dX7_empty_7 (fun H locs hP hD hS => ?_)
  have hP : va_P (dC, dI) vwCl [(a, .inr (7, [.int (nI 4), .int (nI 4), .int heat, .int cools, .int skinHeat, .int today, .int stirs, .int steps, .int (nI lumps), .int (nI boats), .ref thickness, .ref lumpNames, .ref lumpCells, .ref boatNames, .ref boatCells, .ref loads, .ref spoons, .ref spoonsLeft, .ref depths])), (thickness, .inl (ky 0, 36, .inl thicknessF))] H := hP
  have hD : va_D A [(a, .inr (7, [.int (nI 4), .int (nI 4), .int heat, .int cools, .int skinHeat, .int today, .int stirs, .int steps, .int (nI lumps), .int (nI boats), .ref thickness, .ref lumpNames, .ref lumpCells, .ref boatNames, .ref boatCells, .ref loads, .ref spoons, .ref spoonsLeft, .ref depths])), (thickness, .inl (ky 0, 36, .inl thicknessF))] := hD
  refine lv_aload_n hx hb dX7_empty_10 rfl (lv_at hl 0 rfl) ?_
  refine lv_bipush (v := nI 10) hx hb dX7_empty_11 (by decide) ?_
  refine va_put (D := (dC, dI)) (ci := 7) (v := .int (nI 10)) (ty := .int) (C := RX7) (T := TX7) (N := 19) hx hb hts hin7 tyX7 tyX7_ok nmX7 hown hK hP hD hS 0 rfl rfl 2 (by decide) (hts (.fieldLink RX7 50 "PorridgeSea$Sea" "heat" "I") (List.mem_of_getElem? (i := 3) rfl)) (fun _ h9 => h9) rfl (by decide +kernel) rfl rfl (Nat.le_of_ble_eq_true rfl) dX7_empty_13 (fun H locs hP hD hS => ?_)
  have hP : va_P (dC, dI) vwCl [(a, .inr (7, [.int (nI 4), .int (nI 4), .int (nI 10), .int cools, .int skinHeat, .int today, .int stirs, .int steps, .int (nI lumps), .int (nI boats), .ref thickness, .ref lumpNames, .ref lumpCells, .ref boatNames, .ref boatCells, .ref loads, .ref spoons, .ref spoonsLeft, .ref depths])), (thickness, .inl (ky 0, 36, .inl thicknessF))] H := hP
  have hD : va_D A [(a, .inr (7, [.int (nI 4), .int (nI 4), .int (nI 10), .int cools, .int skinHeat, .int today, .int stirs, .int steps, .int (nI lumps), .int (nI boats), .ref thickness, .ref lumpNames, .ref lumpCells, .ref boatNames, .ref boatCells, .ref loads, .ref spoons, .ref spoonsLeft, .ref depths])), (thickness, .inl (ky 0, 36, .inl thicknessF))] := hD
  refine lv_aload_n hx hb dX7_empty_16 rfl (lv_at hl 0 rfl) ?_
  refine lv_iconst (v := nI 1) hx hb dX7_empty_17 (by decide) ?_
  refine va_put (D := (dC, dI)) (ci := 7) (v := .int (nI 1)) (ty := .int) (C := RX7) (T := TX7) (N := 19) hx hb hts hin7 tyX7 tyX7_ok nmX7 hown hK hP hD hS 0 rfl rfl 3 (by decide) (hts (.fieldLink RX7 53 "PorridgeSea$Sea" "cools" "I") (List.mem_of_getElem? (i := 4) rfl)) (fun _ h9 => h9) rfl (by decide +kernel) rfl rfl (Nat.le_of_ble_eq_true rfl) dX7_empty_18 (fun H locs hP hD hS => ?_)
  have hP : va_P (dC, dI) vwCl [(a, .inr (7, [.int (nI 4), .int (nI 4), .int (nI 10), .int (nI 1), .int skinHeat, .int today, .int stirs, .int steps, .int (nI lumps), .int (nI boats), .ref thickness, .ref lumpNames, .ref lumpCells, .ref boatNames, .ref boatCells, .ref loads, .ref spoons, .ref spoonsLeft, .ref depths])), (thickness, .inl (ky 0, 36, .inl thicknessF))] H := hP
  have hD : va_D A [(a, .inr (7, [.int (nI 4), .int (nI 4), .int (nI 10), .int (nI 1), .int skinHeat, .int today, .int stirs, .int steps, .int (nI lumps), .int (nI boats), .ref thickness, .ref lumpNames, .ref lumpCells, .ref boatNames, .ref boatCells, .ref loads, .ref spoons, .ref spoonsLeft, .ref depths])), (thickness, .inl (ky 0, 36, .inl thicknessF))] := hD
  refine lv_aload_n hx hb dX7_empty_21 rfl (lv_at hl 0 rfl) ?_
  refine lv_iconst (v := nI 3) hx hb dX7_empty_22 (by decide) ?_
  refine va_put (D := (dC, dI)) (ci := 7) (v := .int (nI 3)) (ty := .int) (C := RX7) (T := TX7) (N := 19) hx hb hts hin7 tyX7 tyX7_ok nmX7 hown hK hP hD hS 0 rfl rfl 4 (by decide) (hts (.fieldLink RX7 56 "PorridgeSea$Sea" "skinHeat" "I") (List.mem_of_getElem? (i := 5) rfl)) (fun _ h9 => h9) rfl (by decide +kernel) rfl rfl (Nat.le_of_ble_eq_true rfl) dX7_empty_23 (fun H locs hP hD hS => ?_)
  have hP : va_P (dC, dI) vwCl [(a, .inr (7, [.int (nI 4), .int (nI 4), .int (nI 10), .int (nI 1), .int (nI 3), .int today, .int stirs, .int steps, .int (nI lumps), .int (nI boats), .ref thickness, .ref lumpNames, .ref lumpCells, .ref boatNames, .ref boatCells, .ref loads, .ref spoons, .ref spoonsLeft, .ref depths])), (thickness, .inl (ky 0, 36, .inl thicknessF))] H := hP
  have hD : va_D A [(a, .inr (7, [.int (nI 4), .int (nI 4), .int (nI 10), .int (nI 1), .int (nI 3), .int today, .int stirs, .int steps, .int (nI lumps), .int (nI boats), .ref thickness, .ref lumpNames, .ref lumpCells, .ref boatNames, .ref boatCells, .ref loads, .ref spoons, .ref spoonsLeft, .ref depths])), (thickness, .inl (ky 0, 36, .inl thicknessF))] := hD
  refine lv_aload_n hx hb dX7_empty_26 rfl (lv_at hl 0 rfl) ?_
  refine lv_iconst (v := nI 0) hx hb dX7_empty_27 (by decide) ?_
  refine va_put (D := (dC, dI)) (ci := 7) (v := .int (nI 0)) (ty := .int) (C := RX7) (T := TX7) (N := 19) hx hb hts hin7 tyX7 tyX7_ok nmX7 hown hK hP hD hS 0 rfl rfl 5 (by decide) (hts (.fieldLink RX7 59 "PorridgeSea$Sea" "today" "I") (List.mem_of_getElem? (i := 6) rfl)) (fun _ h9 => h9) rfl (by decide +kernel) rfl rfl (Nat.le_of_ble_eq_true rfl) dX7_empty_28 (fun H locs hP hD hS => ?_)
  have hP : va_P (dC, dI) vwCl [(a, .inr (7, [.int (nI 4), .int (nI 4), .int (nI 10), .int (nI 1), .int (nI 3), .int (nI 0), .int stirs, .int steps, .int (nI lumps), .int (nI boats), .ref thickness, .ref lumpNames, .ref lumpCells, .ref boatNames, .ref boatCells, .ref loads, .ref spoons, .ref spoonsLeft, .ref depths])), (thickness, .inl (ky 0, 36, .inl thicknessF))] H := hP
  have hD : va_D A [(a, .inr (7, [.int (nI 4), .int (nI 4), .int (nI 10), .int (nI 1), .int (nI 3), .int (nI 0), .int stirs, .int steps, .int (nI lumps), .int (nI boats), .ref thickness, .ref lumpNames, .ref lumpCells, .ref boatNames, .ref boatCells, .ref loads, .ref spoons, .ref spoonsLeft, .ref depths])), (thickness, .inl (ky 0, 36, .inl thicknessF))] := hD
  refine lv_aload_n hx hb dX7_empty_31 rfl (lv_at hl 0 rfl) ?_
  refine lv_iconst (v := nI 0) hx hb dX7_empty_32 (by decide) ?_
  refine va_put (D := (dC, dI)) (ci := 7) (v := .int (nI 0)) (ty := .int) (C := RX7) (T := TX7) (N := 19) hx hb hts hin7 tyX7 tyX7_ok nmX7 hown hK hP hD hS 0 rfl rfl 6 (by decide) (hts (.fieldLink RX7 62 "PorridgeSea$Sea" "stirs" "I") (List.mem_of_getElem? (i := 7) rfl)) (fun _ h9 => h9) rfl (by decide +kernel) rfl rfl (Nat.le_of_ble_eq_true rfl) dX7_empty_33 (fun H locs hP hD hS => ?_)
  have hP : va_P (dC, dI) vwCl [(a, .inr (7, [.int (nI 4), .int (nI 4), .int (nI 10), .int (nI 1), .int (nI 3), .int (nI 0), .int (nI 0), .int steps, .int (nI lumps), .int (nI boats), .ref thickness, .ref lumpNames, .ref lumpCells, .ref boatNames, .ref boatCells, .ref loads, .ref spoons, .ref spoonsLeft, .ref depths])), (thickness, .inl (ky 0, 36, .inl thicknessF))] H := hP
  have hD : va_D A [(a, .inr (7, [.int (nI 4), .int (nI 4), .int (nI 10), .int (nI 1), .int (nI 3), .int (nI 0), .int (nI 0), .int steps, .int (nI lumps), .int (nI boats), .ref thickness, .ref lumpNames, .ref lumpCells, .ref boatNames, .ref boatCells, .ref loads, .ref spoons, .ref spoonsLeft, .ref depths])), (thickness, .inl (ky 0, 36, .inl thicknessF))] := hD
  refine lv_aload_n hx hb dX7_empty_36 rfl (lv_at hl 0 rfl) ?_
  refine lv_iconst (v := nI 0) hx hb dX7_empty_37 (by decide) ?_
  refine va_put (D := (dC, dI)) (ci := 7) (v := .int (nI 0)) (ty := .int) (C := RX7) (T := TX7) (N := 19) hx hb hts hin7 tyX7 tyX7_ok nmX7 hown hK hP hD hS 0 rfl rfl 7 (by decide) (hts (.fieldLink RX7 65 "PorridgeSea$Sea" "steps" "I") (List.mem_of_getElem? (i := 8) rfl)) (fun _ h9 => h9) rfl (by decide +kernel) rfl rfl (Nat.le_of_ble_eq_true rfl) dX7_empty_38 (fun H locs hP hD hS => ?_)
  have hP : va_P (dC, dI) vwCl [(a, .inr (7, [.int (nI 4), .int (nI 4), .int (nI 10), .int (nI 1), .int (nI 3), .int (nI 0), .int (nI 0), .int (nI 0), .int (nI lumps), .int (nI boats), .ref thickness, .ref lumpNames, .ref lumpCells, .ref boatNames, .ref boatCells, .ref loads, .ref spoons, .ref spoonsLeft, .ref depths])), (thickness, .inl (ky 0, 36, .inl thicknessF))] H := hP
  have hD : va_D A [(a, .inr (7, [.int (nI 4), .int (nI 4), .int (nI 10), .int (nI 1), .int (nI 3), .int (nI 0), .int (nI 0), .int (nI 0), .int (nI lumps), .int (nI boats), .ref thickness, .ref lumpNames, .ref lumpCells, .ref boatNames, .ref boatCells, .ref loads, .ref spoons, .ref spoonsLeft, .ref depths])), (thickness, .inl (ky 0, 36, .inl thicknessF))] := hD
  refine lv_aload_n hx hb dX7_empty_41 rfl (lv_at hl 0 rfl) ?_
  refine lv_iconst (v := nI 0) hx hb dX7_empty_42 (by decide) ?_
  refine va_put (D := (dC, dI)) (ci := 7) (v := .int (nI 0)) (ty := .int) (C := RX7) (T := TX7) (N := 19) hx hb hts hin7 tyX7 tyX7_ok nmX7 hown hK hP hD hS 0 rfl rfl 8 (by decide) (hts (.fieldLink RX7 68 "PorridgeSea$Sea" "lumps" "I") (List.mem_of_getElem? (i := 9) rfl)) (fun _ h9 => h9) rfl (by decide +kernel) rfl rfl (Nat.le_of_ble_eq_true rfl) dX7_empty_43 (fun H locs hP hD hS => ?_)
  have hP : va_P (dC, dI) vwCl [(a, .inr (7, [.int (nI 4), .int (nI 4), .int (nI 10), .int (nI 1), .int (nI 3), .int (nI 0), .int (nI 0), .int (nI 0), .int (nI 0), .int (nI boats), .ref thickness, .ref lumpNames, .ref lumpCells, .ref boatNames, .ref boatCells, .ref loads, .ref spoons, .ref spoonsLeft, .ref depths])), (thickness, .inl (ky 0, 36, .inl thicknessF))] H := hP
  have hD : va_D A [(a, .inr (7, [.int (nI 4), .int (nI 4), .int (nI 10), .int (nI 1), .int (nI 3), .int (nI 0), .int (nI 0), .int (nI 0), .int (nI 0), .int (nI boats), .ref thickness, .ref lumpNames, .ref lumpCells, .ref boatNames, .ref boatCells, .ref loads, .ref spoons, .ref spoonsLeft, .ref depths])), (thickness, .inl (ky 0, 36, .inl thicknessF))] := hD
  refine lv_aload_n hx hb dX7_empty_46 rfl (lv_at hl 0 rfl) ?_
  refine lv_iconst (v := nI 0) hx hb dX7_empty_47 (by decide) ?_
  refine va_put (D := (dC, dI)) (ci := 7) (v := .int (nI 0)) (ty := .int) (C := RX7) (T := TX7) (N := 19) hx hb hts hin7 tyX7 tyX7_ok nmX7 hown hK hP hD hS 0 rfl rfl 9 (by decide) (hts (.fieldLink RX7 71 "PorridgeSea$Sea" "boats" "I") (List.mem_of_getElem? (i := 10) rfl)) (fun _ h9 => h9) rfl (by decide +kernel) rfl rfl (Nat.le_of_ble_eq_true rfl) dX7_empty_48 (fun H locs hP hD hS => ?_)
  have hP : va_P (dC, dI) vwCl [(a, .inr (7, [.int (nI 4), .int (nI 4), .int (nI 10), .int (nI 1), .int (nI 3), .int (nI 0), .int (nI 0), .int (nI 0), .int (nI 0), .int (nI 0), .ref thickness, .ref lumpNames, .ref lumpCells, .ref boatNames, .ref boatCells, .ref loads, .ref spoons, .ref spoonsLeft, .ref depths])), (thickness, .inl (ky 0, 36, .inl thicknessF))] H := hP
  have hD : va_D A [(a, .inr (7, [.int (nI 4), .int (nI 4), .int (nI 10), .int (nI 1), .int (nI 3), .int (nI 0), .int (nI 0), .int (nI 0), .int (nI 0), .int (nI 0), .ref thickness, .ref lumpNames, .ref lumpCells, .ref boatNames, .ref boatCells, .ref loads, .ref spoons, .ref spoonsLeft, .ref depths])), (thickness, .inl (ky 0, 36, .inl thicknessF))] := hD
  refine lv_iconst (v := nI 0) hx hb dX7_empty_51 (by decide) ?_
  refine lv_istore_n (lv' := [(1, .int (nI 0)), (0, .ref a)]) hx hb dX7_empty_52 rfl hl (by decide) rfl (fun ls hl => ?_)
  have hL10 : ∀ (n11 : Nat) (k7 : Nat) (f8 : Nat → Int32), (k7 ≤ 36) → (∀ c, c < k7 → f8 c = nI 0) → 36 - k7 < n11 → ∀ (H : Heap) (locs : List Loc) (ls : Array Slot), va_P (dC, dI) vwCl [(a, .inr (7, [.int (nI 4), .int (nI 4), .int (nI 10), .int (nI 1), .int (nI 3), .int (nI 0), .int (nI 0), .int (nI 0), .int (nI 0), .int (nI 0), .ref thickness, .ref lumpNames, .ref lumpCells, .ref boatNames, .ref boatCells, .ref loads, .ref spoons, .ref spoonsLeft, .ref depths])), (thickness, .inl (ky 0, 36, .inl f8))] H → va_D A [(a, .inr (7, [.int (nI 4), .int (nI 4), .int (nI 10), .int (nI 1), .int (nI 3), .int (nI 0), .int (nI 0), .int (nI 0), .int (nI 0), .int (nI 0), .ref thickness, .ref lumpNames, .ref lumpCells, .ref boatNames, .ref boatCells, .ref loads, .ref spoons, .ref spoonsLeft, .ref depths])), (thickness, .inl (ky 0, 36, .inl f8))] → va_S A s.heap H locs → lv_has ls 2 [(1, .int (nI k7)), (0, .ref a)] → W p l e (headSpec wsX7_empty ({ frames := 0, cells := 0, slots := 0, locals := 0 })).room s m args below meth c H locs 0 0 Q (F0 m 53 ls []) := by
    intro n11
    induction n11 with
    | zero => intro k7 f8 _ _ h9; exact absurd h9 (Nat.not_lt_zero _)
    | succ n11 ih12 =>
      intro k7 f8 j9 jE hm13 H locs ls hP hD hS hl
      refine lv_iload_n hx hb dX7_empty_53 rfl (lv_at hl 0 rfl) ?_
      refine lv_bipush (v := nI 36) hx hb dX7_empty_54 (by decide) ?_
      refine n_icmp_ge (x := k7) (y := 36) (tgt := 72) hx hb (by omega) (by omega) dX7_empty_56 (by decide) (fun c14 => ?_) (fun c14 => ?_)
      · rw [hQ]
        exact W.vret hx hb hr (fun t9 ht9 hW9 => ⟨⟨(4, 4, nI 10, nI 1, nI 3, nI 0, nI 0, nI 0, 0, 0, f8), rfl, ⟨(lf_f_empty_1), (lf_f_empty_2), (lf_f_empty_3), (lf_f_empty_4), (lf_f_empty_5), (lf_f_empty_6), rfl, rfl, rfl, rfl, rfl, rfl, rfl, (lf_f_empty_7 k7 f8 n11 j9 jE hm13 c14)⟩, by rw [ht9]; exact hP, va_K.moved hW9.alike hK, hD⟩, hS.F ht9⟩) hS.2.2 dX7_empty_72
      · refine lv_aload_n hx hb dX7_empty_59 rfl (lv_at hl 1 rfl) ?_
        refine va_get (D := (dC, dI)) (ci := 7) (v := .ref thickness) (C := RX7) (T := TX7) (N := 19) hx hb hts hin7 hown hK hP 0 rfl rfl 10 (by decide) (hts (.fieldLink RX7 9 "PorridgeSea$Sea" "thickness" "[I") (List.mem_of_getElem? (i := 11) rfl)) (fun _ h9 => h9) rfl dX7_empty_60 ?_
        refine lv_iload_n hx hb dX7_empty_63 rfl (lv_at hl 0 rfl) ?_
        refine lv_iconst (v := nI 0) hx hb dX7_empty_64 (by decide) ?_
        refine r_iast (x := (nI 0)) hx hb hK hP hD hS 1 rfl k7 (by omega) (by decide) dX7_empty_65 (fun H locs hP hD hS => ?_)
        obtain ⟨g15, e16⟩ : ∃ z9, z9 = upd f8 k7 (nI 0) := ⟨_, rfl⟩
        rw [← e16] at hP hD
        have hP : va_P (dC, dI) vwCl [(a, .inr (7, [.int (nI 4), .int (nI 4), .int (nI 10), .int (nI 1), .int (nI 3), .int (nI 0), .int (nI 0), .int (nI 0), .int (nI 0), .int (nI 0), .ref thickness, .ref lumpNames, .ref lumpCells, .ref boatNames, .ref boatCells, .ref loads, .ref spoons, .ref spoonsLeft, .ref depths])), (thickness, .inl (ky 0, 36, .inl g15))] H := hP
        have hD : va_D A [(a, .inr (7, [.int (nI 4), .int (nI 4), .int (nI 10), .int (nI 1), .int (nI 3), .int (nI 0), .int (nI 0), .int (nI 0), .int (nI 0), .int (nI 0), .ref thickness, .ref lumpNames, .ref lumpCells, .ref boatNames, .ref boatCells, .ref loads, .ref spoons, .ref spoonsLeft, .ref depths])), (thickness, .inl (ky 0, 36, .inl g15))] := hD
        refine lv_iinc (v := nI (k7 + 1)) (lv' := [(1, .int (nI (k7 + 1))), (0, .ref a)]) hx hb dX7_empty_66 hl (k := 0) rfl (show nI k7 + nI 1 = nI (k7 + 1) from nI_add _ _) (by decide) rfl (fun ls hl => ?_)
        refine lv_goto (tgt := 53) hx hb dX7_empty_69 (by decide) ?_
        exact ih12 (k7 + 1) g15 (lf_f_empty_8 k7 f8 n11 g15 j9 jE hm13 c14 e16) (lf_f_empty_9 k7 f8 n11 g15 j9 jE hm13 c14 e16) (lf_f_empty_10 k7 f8 n11 g15 j9 jE hm13 c14 e16) _ _ _ hP hD hS (lv_sub hl [0, 1] rfl)
  exact hL10 ((36 - 0) + 1) 0 thicknessF (lf_f_empty_11) (lf_f_empty_12 thicknessF) (Nat.lt_succ_self _) _ _ _ hP hD hS (lv_sub hl [0, 1] rfl)
