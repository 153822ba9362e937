/-! What the tape says, once, for class and reference: bytes B, of which n are to be read, at most m of them allowed. -/
section TapeSpec
/-- letters, digits, what stands between TOKENS -/
abbrev cBl (c : Nat) : Prop := c = 32 ∨ c = 10
abbrev cLe (c : Nat) : Prop := 97 ≤ c ∧ c ≤ 122
abbrev cDi (c : Nat) : Prop := 48 ≤ c ∧ c ≤ 57
abbrev cAl (c : Nat) : Prop := cLe c ∨ cDi c
def skF (B : Nat → Nat) (n : Nat) : Nat → Nat → Nat
  | 0, p => p
  | f + 1, p => if p < n ∧ cBl (B p) then skF B n f (p + 1) else p
/-- where the next TOKEN begins -/
def sk (B : Nat → Nat) (n p : Nat) : Nat := skF B n (n - p) p
theorem sk_step {B : Nat → Nat} {n p : Nat} (h1 : p < n) (h2 : cBl (B p)) : sk B n p = sk B n (p + 1) := by
  unfold sk
  rw [show n - p = (n - (p + 1)) + 1 by omega]
  rw [skF, if_pos ⟨h1, h2⟩]
theorem sk_stop {B : Nat → Nat} {n p : Nat} (h : ¬ (p < n ∧ cBl (B p))) : sk B n p = p := by
  unfold sk
  cases n - p with
  | zero => rfl
  | succ f => rw [skF, if_neg h]
theorem skF_ge (B : Nat → Nat) (n f p : Nat) : p ≤ skF B n f p := by
  induction f generalizing p with
  | zero => exact Nat.le_refl _
  | succ f ih =>
    rw [skF]
    split
    · exact Nat.le_trans (Nat.le_succ p) (ih (p + 1))
    · exact Nat.le_refl _
theorem sk_ge (B : Nat → Nat) (n p : Nat) : p ≤ sk B n p := skF_ge B n _ p
def rnF (B : Nat → Nat) (n : Nat) : Nat → Nat → Nat
  | 0, p => p
  | f + 1, p => if p < n ∧ cAl (B p) then rnF B n f (p + 1) else p
/-- where a run of letters and digits ends -/
def rn (B : Nat → Nat) (n p : Nat) : Nat := rnF B n (n - p) p
theorem rn_step {B : Nat → Nat} {n p : Nat} (h1 : p < n) (h2 : cAl (B p)) : rn B n p = rn B n (p + 1) := by
  unfold rn
  rw [show n - p = (n - (p + 1)) + 1 by omega]
  rw [rnF, if_pos ⟨h1, h2⟩]
theorem rn_stop {B : Nat → Nat} {n p : Nat} (h : ¬ (p < n ∧ cAl (B p))) : rn B n p = p := by
  unfold rn
  cases n - p with
  | zero => rfl
  | succ f => rw [rnF, if_neg h]
theorem rnF_ge (B : Nat → Nat) (n f p : Nat) : p ≤ rnF B n f p := by
  induction f generalizing p with
  | zero => exact Nat.le_refl _
  | succ f ih =>
    rw [rnF]
    split
    · exact Nat.le_trans (Nat.le_succ p) (ih (p + 1))
    · exact Nat.le_refl _
theorem rn_ge (B : Nat → Nat) (n p : Nat) : p ≤ rn B n p := rnF_ge B n _ p
theorem rn_gt {B : Nat → Nat} {n p : Nat} (h1 : p < n) (h2 : cAl (B p)) : p < rn B n p := by
  rw [rn_step h1 h2]; exact rn_ge B n (p + 1)
/-- how many digits stand among k bytes from p on -/
def dcn (B : Nat → Nat) (p : Nat) : Nat → Nat
  | 0 => 0
  | k + 1 => dcn B p k + if cDi (B (p + k)) then 1 else 0
theorem dcn_le (B : Nat → Nat) (p k : Nat) : dcn B p k ≤ k := by
  induction k with
  | zero => exact Nat.le_refl _
  | succ k ih =>
    rw [dcn]
    split <;> omega
theorem dcn_y {B : Nat → Nat} {p k : Nat} (h : cDi (B (p + k))) : dcn B p (k + 1) = dcn B p k + 1 := by rw [dcn, if_pos h]
theorem dcn_n {B : Nat → Nat} {p k : Nat} (h : ¬ cDi (B (p + k))) : dcn B p (k + 1) = dcn B p k := by rw [dcn, if_neg h]; rfl
/-- a NUMBER's value -/
def nvn (B : Nat → Nat) (p : Nat) : Nat → Nat
  | 0 => 0
  | k + 1 => 10 * nvn B p k + (B (p + k) - 48)
/-- a WORD's letters, eight bits each -/
def p8 (B : Nat → Nat) (p : Nat) : Nat → Nat
  | 0 => 0
  | k + 1 => 256 * p8 B p k + B (p + k)
/-- eight bits each into the reference's 27 -/
def cvF : Nat → Nat → Nat
  | 0, _ => 0
  | f + 1, x => if x = 0 then 0 else 27 * cvF f (x / 256) + (x % 256 - 96)
def cv (x : Nat) : Nat := cvF 7 x
/-- the words -/
def WT0 : List Nat := [7562593, 499967943531, 1819635056, 1651466612, 1751474548, 427071335539, 1936419182]
def WT1 : List Nat := [1937009010, 7499639, 109330212154734, 28526, 1650549611, 1700885364, 495791207528, 2003137396, 474316174440, 439905908082, 1835625579, 495874700901, 6578553]
def WT2 : List Nat := [28530, 6385252, 7237492, 435426714990, 107092533797236, 119165719700836, 25209, 1819238756, 431198598248, 1818584692, 121450625394034]
def wix (x : Nat) : Nat := if WT0.idxOf x < 7 then WT0.idxOf x else if WT1.idxOf x < 13 then 7 + WT1.idxOf x else if WT2.idxOf x < 11 then 20 + WT2.idxOf x else 31
/-- a known sign -/
abbrev cSg (c : Nat) : Prop := c = 59 ∨ c = 60 ∨ c = 61 ∨ c = 62 ∨ c = 40 ∨ c = 41
/-- the TOKEN that begins at q: its kind (0 end, 1 none, 2 word, 3 number, or the sign that it is), where it is told to begin, where it ends -/
def qK (B : Nat → Nat) (n m q : Nat) : Nat :=
  if m < n ∧ m ≤ q then 1 else if n ≤ q then 0 else if cAl (B q) then
    (if dcn B q (rn B n q - q) = 0 ∧ rn B n q - q ≤ 7 then 2 else if dcn B q (rn B n q - q) = rn B n q - q ∧ rn B n q - q ≤ 3 then 3 else 1)
  else if cSg (B q) then B q else 1
def qF (n m q : Nat) : Nat := if m < n ∧ m ≤ q then m else q
def qT (B : Nat → Nat) (n m q : Nat) : Nat := if m < n ∧ m ≤ q then q else if n ≤ q then q else if cAl (B q) then rn B n q else q + 1
/-- the TOKEN that is next, read from p on -/
def tK (B : Nat → Nat) (n m p : Nat) : Nat := qK B n m (sk B n p)
def tF (B : Nat → Nat) (n m p : Nat) : Nat := qF n m (sk B n p)
def tT (B : Nat → Nat) (n m p : Nat) : Nat := qT B n m (sk B n p)
def tN (B : Nat → Nat) (n p : Nat) : Nat := nvn B (sk B n p) (rn B n (sk B n p) - sk B n p)
def tC (B : Nat → Nat) (n p : Nat) : Nat := p8 B (sk B n p) (rn B n (sk B n p) - sk B n p)
def tW (B : Nat → Nat) (n m p : Nat) : Nat := if tK B n m p = 2 then wix (tC B n p) else 99
/-- the class's reader holds the TOKEN that is next from p on -/
def RT (B : Nat → Nat) (n m p : Nat) (kind : Int32) (bg pl : Nat) (word num : Int32) (lets : Int64) : Prop :=
  kind = nI (tK B n m p) ∧ bg = tF B n m p ∧ pl = tT B n m p ∧ ((tK B n m p = 2 ∧ word = nI (tW B n m p)) ∨ (tK B n m p ≠ 2 ∧ word = (-1 : Int32))) ∧ (tK B n m p = 3 → num = nI (tN B n p)) ∧ (tK B n m p = 2 → lets = Int64.ofNat (tC B n p))
/-- so does the reference -/
def MT (B : Nat → Nat) (n m p : Nat) (kind sign : Int32) (fr to : Nat) (num : Int32) (word : Int64) : Prop :=
  ((tK B n m p ≤ 3 ∧ kind = nI (tK B n m p)) ∨ (3 < tK B n m p ∧ kind = nI 4 ∧ sign = nI (tK B n m p))) ∧ fr = tF B n m p ∧ to = tT B n m p ∧ (tK B n m p = 3 → num = nI (tN B n p)) ∧ (tK B n m p = 2 → word = Int64.ofNat (cv (tC B n p)))
section Cases
variable {B : Nat → Nat} {n m p q : Nat} {word num kind sign : Int32} {lets : Int64}
theorem K_lim (hq : sk B n p = q) (h1 : m < n) (h2 : m ≤ q) : tK B n m p = 1 ∧ tF B n m p = m ∧ tT B n m p = q := by
  unfold tK tF tT qK qF qT
  rw [hq, if_pos ⟨h1, h2⟩, if_pos ⟨h1, h2⟩, if_pos ⟨h1, h2⟩]
  exact ⟨rfl, rfl, rfl⟩
theorem K_end (hq : sk B n p = q) (h : ¬ (m < n ∧ m ≤ q)) (h3 : n ≤ q) : tK B n m p = 0 ∧ tF B n m p = q ∧ tT B n m p = q := by
  unfold tK tF tT qK qF qT
  rw [hq, if_neg h, if_neg h, if_neg h, if_pos h3, if_pos h3]
  exact ⟨rfl, rfl, rfl⟩
theorem K_sgn (hq : sk B n p = q) (h : ¬ (m < n ∧ m ≤ q)) (h3 : q < n) (h4 : ¬ cAl (B q)) : tK B n m p = (if cSg (B q) then B q else 1) ∧ tF B n m p = q ∧ tT B n m p = q + 1 := by
  have h5 : ¬ n ≤ q := by omega
  unfold tK tF tT qK qF qT
  rw [hq, if_neg h, if_neg h, if_neg h, if_neg h5, if_neg h5, if_neg h4, if_neg h4]
  exact ⟨rfl, rfl, rfl⟩
theorem K_run (hq : sk B n p = q) (h : ¬ (m < n ∧ m ≤ q)) (h3 : q < n) (h4 : cAl (B q)) {e : Nat} (he : rn B n q = e) :
    tK B n m p = (if dcn B q (e - q) = 0 ∧ e - q ≤ 7 then 2 else if dcn B q (e - q) = e - q ∧ e - q ≤ 3 then 3 else 1) ∧ tF B n m p = q ∧ tT B n m p = e ∧ tN B n p = nvn B q (e - q) ∧ tC B n p = p8 B q (e - q) := by
  have h5 : ¬ n ≤ q := by omega
  unfold tK tF tT qK qF qT tN tC
  rw [hq, if_neg h, if_neg h, if_neg h, if_neg h5, if_neg h5, if_pos h4, if_pos h4, he]
  exact ⟨rfl, rfl, rfl, rfl, rfl⟩
theorem RT_lim (hq : sk B n p = q) (h1 : m < n) (h2 : m ≤ q) : RT B n m p (nI 1) m q (-1) num lets := by
  obtain ⟨a, b, c⟩ := K_lim hq h1 h2
  unfold RT
  rw [a, b, c]
  exact ⟨rfl, rfl, rfl, Or.inr ⟨by decide, rfl⟩, fun h => absurd h (by decide), fun h => absurd h (by decide)⟩
theorem RT_end (hq : sk B n p = q) (h : ¬ (m < n ∧ m ≤ q)) (h3 : n ≤ q) : RT B n m p (nI 0) q q (-1) num lets := by
  obtain ⟨a, b, c⟩ := K_end hq h h3
  unfold RT
  rw [a, b, c]
  exact ⟨rfl, rfl, rfl, Or.inr ⟨by decide, rfl⟩, fun h => absurd h (by decide), fun h => absurd h (by decide)⟩
theorem sgn_ne (c : Nat) : (if cSg c then c else 1) ≠ 2 ∧ (if cSg c then c else 1) ≠ 3 := by
  by_cases h : cSg c
  · rw [if_pos h]
    unfold cSg at h
    omega
  · rw [if_neg h]
    decide
theorem RT_sgn (hq : sk B n p = q) (h : ¬ (m < n ∧ m ≤ q)) (h3 : q < n) (h4 : ¬ cAl (B q)) (hk : kind = nI (if cSg (B q) then B q else 1)) : RT B n m p kind q (q + 1) (-1) num lets := by
  obtain ⟨a, b, c⟩ := K_sgn hq h h3 h4
  have hs := sgn_ne (B q)
  unfold RT
  rw [a, b, c]
  exact ⟨hk, rfl, rfl, Or.inr ⟨hs.1, rfl⟩, fun h => absurd h hs.2, fun h => absurd h hs.1⟩
theorem RT_word (hq : sk B n p = q) (h : ¬ (m < n ∧ m ≤ q)) (h3 : q < n) (h4 : cAl (B q)) {e : Nat} (he : rn B n q = e) (hd : dcn B q (e - q) = 0) (hk : e - q ≤ 7) (hw : word = nI (wix (p8 B q (e - q)))) (hl : lets = Int64.ofNat (p8 B q (e - q))) : RT B n m p (nI 2) q e word num lets := by
  obtain ⟨a, b, c, d, f⟩ := K_run hq h h3 h4 he
  rw [if_pos ⟨hd, hk⟩] at a
  have g : tW B n m p = wix (p8 B q (e - q)) := by unfold tW; rw [if_pos a, f]
  unfold RT
  rw [a, b, c, g, f]
  exact ⟨rfl, rfl, rfl, Or.inl ⟨rfl, hw⟩, fun h => absurd h (by decide), fun _ => hl⟩
theorem RT_num (hq : sk B n p = q) (h : ¬ (m < n ∧ m ≤ q)) (h3 : q < n) (h4 : cAl (B q)) {e : Nat} (he : rn B n q = e) (hd : dcn B q (e - q) = e - q) (hk : e - q ≤ 3) (hn : num = nI (nvn B q (e - q))) : RT B n m p (nI 3) q e (-1) num lets := by
  obtain ⟨a, b, c, d, f⟩ := K_run hq h h3 h4 he
  have hg := rn_gt h3 h4
  rw [if_neg (by omega), if_pos ⟨hd, hk⟩] at a
  unfold RT
  rw [a, b, c, d]
  exact ⟨rfl, rfl, rfl, Or.inr ⟨by decide, rfl⟩, fun _ => hn, fun h => absurd h (by decide)⟩
theorem RT_bad (hq : sk B n p = q) (h : ¬ (m < n ∧ m ≤ q)) (h3 : q < n) (h4 : cAl (B q)) {e : Nat} (he : rn B n q = e) (hd : ¬ (dcn B q (e - q) = 0 ∧ e - q ≤ 7)) (hk : ¬ (dcn B q (e - q) = e - q ∧ e - q ≤ 3)) : RT B n m p (nI 1) q e (-1) num lets := by
  obtain ⟨a, b, c, d, f⟩ := K_run hq h h3 h4 he
  rw [if_neg hd, if_neg hk] at a
  unfold RT
  rw [a, b, c]
  exact ⟨rfl, rfl, rfl, Or.inr ⟨by decide, rfl⟩, fun h => absurd h (by decide), fun h => absurd h (by decide)⟩
variable {mword : Int64}
theorem MT_lim (hq : sk B n p = q) (h1 : m < n) (h2 : m ≤ q) : MT B n m p (nI 1) sign m q num mword := by
  obtain ⟨a, b, c⟩ := K_lim hq h1 h2
  unfold MT
  rw [a, b, c]
  exact ⟨Or.inl ⟨by decide, rfl⟩, rfl, rfl, fun h => absurd h (by decide), fun h => absurd h (by decide)⟩
theorem MT_end (hq : sk B n p = q) (h : ¬ (m < n ∧ m ≤ q)) (h3 : n ≤ q) : MT B n m p (nI 0) sign q q num mword := by
  obtain ⟨a, b, c⟩ := K_end hq h h3
  unfold MT
  rw [a, b, c]
  exact ⟨Or.inl ⟨by decide, rfl⟩, rfl, rfl, fun h => absurd h (by decide), fun h => absurd h (by decide)⟩
theorem MT_sgy (hq : sk B n p = q) (h : ¬ (m < n ∧ m ≤ q)) (h3 : q < n) (h4 : ¬ cAl (B q)) (h5 : cSg (B q)) : MT B n m p (nI 4) (nI (B q)) q (q + 1) num mword := by
  obtain ⟨a, b, c⟩ := K_sgn hq h h3 h4
  rw [if_pos h5] at a
  have h6 : 3 < B q := by unfold cSg at h5; omega
  unfold MT
  rw [a, b, c]
  exact ⟨Or.inr ⟨h6, rfl, rfl⟩, rfl, rfl, fun h => absurd h (by omega), fun h => absurd h (by omega)⟩
theorem MT_sgn (hq : sk B n p = q) (h : ¬ (m < n ∧ m ≤ q)) (h3 : q < n) (h4 : ¬ cAl (B q)) (h5 : ¬ cSg (B q)) : MT B n m p (nI 1) sign q (q + 1) num mword := by
  obtain ⟨a, b, c⟩ := K_sgn hq h h3 h4
  rw [if_neg h5] at a
  unfold MT
  rw [a, b, c]
  exact ⟨Or.inl ⟨by decide, rfl⟩, rfl, rfl, fun h => absurd h (by omega), fun h => absurd h (by omega)⟩
theorem MT_word (hq : sk B n p = q) (h : ¬ (m < n ∧ m ≤ q)) (h3 : q < n) (h4 : cAl (B q)) {e : Nat} (he : rn B n q = e) (hd : dcn B q (e - q) = 0) (hk : e - q ≤ 7) (hl : mword = Int64.ofNat (cv (p8 B q (e - q)))) : MT B n m p (nI 2) sign q e num mword := by
  obtain ⟨a, b, c, d, f⟩ := K_run hq h h3 h4 he
  rw [if_pos ⟨hd, hk⟩] at a
  unfold MT
  rw [a, b, c, f]
  exact ⟨Or.inl ⟨by decide, rfl⟩, rfl, rfl, fun h => absurd h (by decide), fun _ => hl⟩
theorem MT_num (hq : sk B n p = q) (h : ¬ (m < n ∧ m ≤ q)) (h3 : q < n) (h4 : cAl (B q)) {e : Nat} (he : rn B n q = e) (hd : dcn B q (e - q) = e - q) (hk : e - q ≤ 3) (hn : num = nI (nvn B q (e - q))) : MT B n m p (nI 3) sign q e num mword := by
  obtain ⟨a, b, c, d, f⟩ := K_run hq h h3 h4 he
  have hg := rn_gt h3 h4
  rw [if_neg (by omega), if_pos ⟨hd, hk⟩] at a
  unfold MT
  rw [a, b, c, d]
  exact ⟨Or.inl ⟨by decide, rfl⟩, rfl, rfl, fun _ => hn, fun h => absurd h (by decide)⟩
theorem MT_bad (hq : sk B n p = q) (h : ¬ (m < n ∧ m ≤ q)) (h3 : q < n) (h4 : cAl (B q)) {e : Nat} (he : rn B n q = e) (hd : ¬ (dcn B q (e - q) = 0 ∧ e - q ≤ 7)) (hk : ¬ (dcn B q (e - q) = e - q ∧ e - q ≤ 3)) : MT B n m p (nI 1) sign q e num mword := by
  obtain ⟨a, b, c, d, f⟩ := K_run hq h h3 h4 he
  rw [if_neg hd, if_neg hk] at a
  unfold MT
  rw [a, b, c]
  exact ⟨Or.inl ⟨by decide, rfl⟩, rfl, rfl, fun h => absurd h (by decide), fun h => absurd h (by decide)⟩
end Cases
end TapeSpec
section Words
def LET (B : Nat → Nat) (p k : Nat) : Prop := ∀ j, j < k → cLe (B (p + j))
theorem LET_pre {B : Nat → Nat} {p k : Nat} (h : LET B p (k + 1)) : LET B p k ∧ cLe (B (p + k)) := ⟨fun j hj => h j (by omega), h k (by omega)⟩
theorem p8_pos {B : Nat → Nat} {p k : Nat} (h : LET B p (k + 1)) : 97 ≤ p8 B p (k + 1) := by
  have h1 := (LET_pre h).2
  unfold cLe at h1
  rw [p8]
  omega
theorem p8_uniq {B B' : Nat → Nat} {p p' k k' : Nat} (h : LET B p k) (h' : LET B' p' k') (e : p8 B p k = p8 B' p' k') : k = k' ∧ ∀ j, j < k → B (p + j) = B' (p' + j) := by
  induction k generalizing k' with
  | zero =>
    cases k' with
    | zero => exact ⟨rfl, fun j hj => absurd hj (Nat.not_lt_zero j)⟩
    | succ k' =>
      have := p8_pos h'
      rw [← e] at this
      exact absurd this (by rw [p8]; decide)
  | succ k ih =>
    cases k' with
    | zero =>
      have := p8_pos h
      rw [e] at this
      exact absurd this (by rw [p8]; decide)
    | succ k' =>
      obtain ⟨a, b⟩ := LET_pre h
      obtain ⟨a', b'⟩ := LET_pre h'
      unfold cLe at b b'
      rw [p8, p8] at e
      obtain ⟨e1, e2⟩ := ih a a' (by omega)
      subst e1
      refine ⟨rfl, fun j hj => ?_⟩
      by_cases hjk : j = k
      · rw [hjk]; omega
      · exact e2 j (by omega)
theorem p8_congr {B B' : Nat → Nat} {p p' k : Nat} (h : ∀ j, j < k → B (p + j) = B' (p' + j)) : p8 B p k = p8 B' p' k := by
  induction k with
  | zero => rfl
  | succ k ih => rw [p8, p8, ih (fun j hj => h j (by omega)), h k (by omega)]
theorem p8_lt {B : Nat → Nat} {p k : Nat} (h : LET B p k) : p8 B p k < 256 ^ k := by
  induction k with
  | zero => exact Nat.lt_succ_self 0
  | succ k ih =>
    obtain ⟨a, b⟩ := LET_pre h
    have := ih a
    unfold cLe at b
    rw [p8, Nat.pow_succ]
    omega
def c27 (B : Nat → Nat) (p : Nat) : Nat → Nat
  | 0 => 0
  | k + 1 => 27 * c27 B p k + (B (p + k) - 96)
theorem cvF_p8 {B : Nat → Nat} {p k f : Nat} (h : LET B p k) (hk : k ≤ f) : cvF f (p8 B p k) = c27 B p k := by
  induction k generalizing f with
  | zero =>
    cases f with
    | zero => rfl
    | succ f => rw [cvF, p8, if_pos rfl]; rfl
  | succ k ih =>
    cases f with
    | zero => omega
    | succ f =>
      obtain ⟨a, b⟩ := LET_pre h
      have h1 := p8_pos h
      unfold cLe at b
      rw [cvF, if_neg (by omega), p8, c27]
      rw [show (256 * p8 B p k + B (p + k)) / 256 = p8 B p k by omega, show (256 * p8 B p k + B (p + k)) % 256 = B (p + k) by omega, ih a (by omega)]
theorem cv_p8 {B : Nat → Nat} {p k : Nat} (h : LET B p k) (hk : k ≤ 7) : cv (p8 B p k) = c27 B p k := cvF_p8 h hk
theorem c27_lt {B : Nat → Nat} {p k : Nat} (h : LET B p k) : c27 B p k < 27 ^ k := by
  induction k with
  | zero => exact Nat.lt_succ_self 0
  | succ k ih =>
    obtain ⟨a, b⟩ := LET_pre h
    have := ih a
    unfold cLe at b
    rw [c27, Nat.pow_succ]
    omega
theorem c27_uniq {B B' : Nat → Nat} {p p' k k' : Nat} (h : LET B p k) (h' : LET B' p' k') (e : c27 B p k = c27 B' p' k') : k = k' ∧ ∀ j, j < k → B (p + j) = B' (p' + j) := by
  induction k generalizing k' with
  | zero =>
    cases k' with
    | zero => exact ⟨rfl, fun j hj => absurd hj (Nat.not_lt_zero j)⟩
    | succ k' =>
      obtain ⟨a', b'⟩ := LET_pre h'
      unfold cLe at b'
      rw [c27, c27] at e
      omega
  | succ k ih =>
    obtain ⟨a, b⟩ := LET_pre h
    unfold cLe at b
    cases k' with
    | zero =>
      rw [c27, c27] at e
      omega
    | succ k' =>
      obtain ⟨a', b'⟩ := LET_pre h'
      unfold cLe at b'
      rw [c27, c27] at e
      obtain ⟨e1, e2⟩ := ih a a' (by omega)
      subst e1
      refine ⟨rfl, fun j hj => ?_⟩
      by_cases hjk : j = k
      · rw [hjk]; omega
      · exact e2 j (by omega)
/-- a WORD's code -/
def GN (x : Nat) : Prop := ∃ (B : Nat → Nat) (p k : Nat), k ≤ 7 ∧ LET B p k ∧ x = p8 B p k
theorem GN_lt {x : Nat} (h : GN x) : x < 72057594037927936 := by
  obtain ⟨B, p, k, hk, hl, rfl⟩ := h
  have h1 : 256 ^ k ≤ 256 ^ 7 := Nat.pow_le_pow_right (by decide) hk
  have h2 := p8_lt hl
  have h3 : 256 ^ 7 = 72057594037927936 := by decide
  omega
theorem GN_cv_lt {x : Nat} (h : GN x) : cv x < 10460353203 := by
  obtain ⟨B, p, k, hk, hl, rfl⟩ := h
  rw [cv_p8 hl hk]
  have h1 : 27 ^ k ≤ 27 ^ 7 := Nat.pow_le_pow_right (by decide) hk
  have h2 := c27_lt hl
  have h3 : 27 ^ 7 = 10460353203 := by decide
  omega
theorem GN_cv {x y : Nat} (h : GN x) (h' : GN y) (e : cv x = cv y) : x = y := by
  obtain ⟨B, p, k, hk, hl, rfl⟩ := h
  obtain ⟨B', p', k', hk', hl', rfl⟩ := h'
  rw [cv_p8 hl hk, cv_p8 hl' hk'] at e
  obtain ⟨rfl, e2⟩ := c27_uniq hl hl' e
  exact p8_congr e2
theorem l_inj {a b : Nat} (h1 : a < 9223372036854775808) (h2 : b < 9223372036854775808) (e : Int64.ofNat a = Int64.ofNat b) : a = b := by
  have h3 := congrArg Int64.toInt e
  rw [Int64.toInt_ofNat_of_lt h1, Int64.toInt_ofNat_of_lt h2] at h3
  omega
theorem N8_eq {x y : Nat} (h : GN x) (h' : GN y) : Int64.ofNat x = Int64.ofNat y ↔ x = y :=
  ⟨fun e => l_inj (by have := GN_lt h; omega) (by have := GN_lt h'; omega) e, fun e => by rw [e]⟩
theorem N27_eq {x y : Nat} (h : GN x) (h' : GN y) : Int64.ofNat (cv x) = Int64.ofNat (cv y) ↔ x = y :=
  ⟨fun e => GN_cv h h' (l_inj (by have := GN_cv_lt h; omega) (by have := GN_cv_lt h'; omega) e), fun e => by rw [e]⟩
def tx0 : List Nat := [115, 101, 97, 32, 32, 32, 32, 116, 104, 105, 99, 107, 32, 32, 108, 117, 109, 112, 32, 32, 32, 98, 111, 97, 116, 32, 32, 32, 104, 101, 97, 116, 32, 32, 32, 99, 111, 111, 108, 115, 32, 32, 115, 107, 105, 110, 32, 32, 32]
def tx1 : List Nat := [115, 116, 105, 114, 32, 32, 32, 114, 111, 119, 32, 32, 32, 32, 99, 111, 108, 117, 109, 110, 32, 111, 110, 32, 32, 32, 32, 32, 98, 97, 99, 107, 32, 32, 32, 101, 97, 115, 116, 32, 32, 32, 115, 111, 117, 116, 104, 32, 32, 119, 101, 115, 116, 32, 32, 32, 110, 111, 114, 116, 104, 32, 32, 102, 108, 111, 117, 114, 32, 32, 109, 105, 108, 107, 32, 32, 32, 115, 116, 111, 118, 101, 32, 32, 100, 97, 121, 32, 32, 32, 32]
def tx2 : List Nat := [111, 114, 32, 32, 32, 32, 32, 97, 110, 100, 32, 32, 32, 32, 110, 111, 116, 32, 32, 32, 32, 101, 97, 116, 101, 110, 32, 32, 97, 102, 108, 111, 97, 116, 32, 108, 97, 110, 100, 101, 100, 32, 98, 121, 32, 32, 32, 32, 32, 108, 111, 97, 100, 32, 32, 32, 100, 101, 112, 116, 104, 32, 32, 108, 101, 102, 116, 32, 32, 32, 110, 117, 109, 98, 101, 114, 32]
/-- the word in its seven places is the TOKEN -/
def mtc (tx : List Nat) (w : Nat) (B : Nat → Nat) (p k : Nat) : Prop := ∀ j, j < 7 → tx.getD (7 * w + j) 0 = if j < k then B (p + j) else 32
/-- a text of words, and their codes -/
def txok (tx wt : List Nat) : Prop := ∀ w, w < wt.length → ∃ L, L ≤ 7 ∧ LET (fun j => tx.getD j 0) (7 * w) L ∧ (∀ j, L ≤ j → j < 7 → tx.getD (7 * w + j) 0 = 32) ∧ p8 (fun j => tx.getD j 0) (7 * w) L = wt.getD w 0
def txL (tx : List Nat) (w : Nat) : Nat := (List.range 7).countP (fun j => tx.getD (7 * w + j) 0 ≠ 32)
theorem txok_of (tx wt : List Nat) (h : ∀ w, w < wt.length → (txL tx w ≤ 7 ∧ (∀ j, j < txL tx w → 97 ≤ tx.getD (7 * w + j) 0 ∧ tx.getD (7 * w + j) 0 ≤ 122) ∧ (∀ j, j < 7 → txL tx w ≤ j → tx.getD (7 * w + j) 0 = 32) ∧ p8 (fun j => tx.getD j 0) (7 * w) (txL tx w) = wt.getD w 0)) : txok tx wt :=
  fun w hw => ⟨txL tx w, (h w hw).1, (h w hw).2.1, fun j h1 h2 => (h w hw).2.2.1 j h2 h1, (h w hw).2.2.2⟩
theorem txok0 : txok tx0 WT0 := txok_of _ _ (by decide)
theorem txok1 : txok tx1 WT1 := txok_of _ _ (by decide)
theorem txok2 : txok tx2 WT2 := txok_of _ _ (by decide)
theorem mtc_iff {tx wt : List Nat} (h : txok tx wt) {w : Nat} (hw : w < wt.length) {B : Nat → Nat} {p k : Nat} (hl : LET B p k) (hk : k ≤ 7) : mtc tx w B p k ↔ p8 B p k = wt.getD w 0 := by
  obtain ⟨L, hL, h1, h2, h3⟩ := h w hw
  constructor
  · intro hm
    have e : k = L := by
      apply Nat.le_antisymm
      · refine Nat.le_of_not_lt (fun hlt => ?_)
        have a := hm L (by omega)
        rw [if_pos hlt, h2 L (Nat.le_refl _) (by omega)] at a
        have b := hl L hlt
        unfold cLe at b
        omega
      · refine Nat.le_of_not_lt (fun hlt => ?_)
        have a := hm k (by omega)
        rw [if_neg (Nat.lt_irrefl k)] at a
        have b := h1 k hlt
        unfold cLe at b
        dsimp only at b
        omega
    subst e
    rw [← h3]
    exact p8_congr (fun j hj => by have a := hm j (by omega); rw [if_pos hj] at a; exact a.symm)
  · intro he j hj
    obtain ⟨rfl, e2⟩ := p8_uniq hl h1 (he.trans h3.symm)
    by_cases hjk : j < k
    · rw [if_pos hjk]; exact (e2 j hjk).symm
    · rw [if_neg hjk]; exact h2 j (by omega) hj
theorem idx_ne {l : List Nat} {x a : Nat} (h : x ≠ a) : (a :: l).idxOf x = l.idxOf x + 1 := by
  have h1 : (a == x) = false := by simpa using fun z => h z.symm
  rw [List.idxOf_cons, h1]
  rfl
theorem idx_hit {l : List Nat} {x w : Nat} (h : ∀ v, v < w → x ≠ l.getD v 0) (hw : w < l.length) (e : x = l.getD w 0) : l.idxOf x = w := by
  induction l generalizing w with
  | nil => exact absurd hw (Nat.not_lt_zero _)
  | cons a l ih =>
    cases w with
    | zero => rw [e]; exact List.idxOf_cons_self
    | succ w =>
      have h0 : x ≠ a := h 0 (by omega)
      rw [idx_ne h0]
      exact congrArg Nat.succ (ih (fun v hv => h (v + 1) (by omega)) (by simpa using hw) e)
theorem idx_none {l : List Nat} {x : Nat} (h : ∀ v, v < l.length → x ≠ l.getD v 0) : l.idxOf x = l.length := by
  induction l with
  | nil => rfl
  | cons a l ih =>
    have h0 : x ≠ a := h 0 (Nat.succ_pos _)
    rw [idx_ne h0]
    exact congrArg Nat.succ (ih (fun v hv => h (v + 1) (by simpa using hv)))
def WTk (k : Nat) : Nat := (WT0 ++ (WT1 ++ WT2)).getD k 0
theorem wix_WTk : ∀ k, k < 31 → wix (WTk k) = k := by decide
theorem idx_get {l : List Nat} {x : Nat} (h : l.idxOf x < l.length) : x = l.getD (l.idxOf x) 0 := by
  have := List.getElem_idxOf h
  rw [List.getD_eq_getElem?_getD, List.getElem?_eq_getElem h, Option.getD_some, this]
theorem WTk_wix {x : Nat} (h : wix x < 31) : WTk (wix x) = x := by
  unfold wix at h ⊢
  by_cases h0 : WT0.idxOf x < 7
  · rw [if_pos h0]
    have e := idx_get (l := WT0) (x := x) h0
    have : ∀ k, k < 7 → WTk k = WT0.getD k 0 := by decide
    rw [this _ h0, ← e]
  rw [if_neg h0] at h ⊢
  by_cases h1 : WT1.idxOf x < 13
  · rw [if_pos h1]
    have e := idx_get (l := WT1) (x := x) h1
    have : ∀ k, k < 13 → WTk (7 + k) = WT1.getD k 0 := by decide
    rw [this _ h1, ← e]
  rw [if_neg h1] at h ⊢
  by_cases h2 : WT2.idxOf x < 11
  · rw [if_pos h2]
    have e := idx_get (l := WT2) (x := x) h2
    have : ∀ k, k < 11 → WTk (20 + k) = WT2.getD k 0 := by decide
    rw [this _ h2, ← e]
  · rw [if_neg h2] at h
    omega
theorem wix_iff {x k : Nat} (hk : k < 31) : x = WTk k ↔ wix x = k :=
  ⟨fun e => by rw [e]; exact wix_WTk k hk, fun e => by rw [← e]; exact (WTk_wix (by omega)).symm⟩
theorem wix_le (x : Nat) : wix x ≤ 31 := by
  unfold wix
  split
  · omega
  · split
    · omega
    · split <;> omega
end Words
section Parse
def updN (f : Nat → Nat) (k v : Nat) : Nat → Nat := fun j => if j = k then v else f j
theorem updN_eq (f : Nat → Nat) (k v : Nat) : updN f k v k = v := if_pos rfl
theorem updN_ne {f : Nat → Nat} {k v j : Nat} (h : j ≠ k) : updN f k v j = f j := if_neg h
def erA {α : Type} : Except (Nat × Nat) α → Nat
  | .error e => e.1
  | .ok _ => 0
def erB {α : Type} : Except (Nat × Nat) α → Nat
  | .error e => e.2
  | .ok _ => 0
def isO {α : Type} : Except (Nat × Nat) α → Bool
  | .error _ => false
  | .ok _ => true
def okV : Except (Nat × Nat) Nat → Nat
  | .error _ => 0
  | .ok v => v
/-- a NUMBER from lo to hi; the next TOKEN is read from tT on -/
def pNum (B : Nat → Nat) (n m lo hi p : Nat) : Except (Nat × Nat) Nat :=
  if tK B n m p ≠ 3 then .error (1, tF B n m p) else if tN B n p < lo ∨ hi < tN B n p then .error (2, tF B n m p) else .ok (tN B n p)
abbrev isFd (ν : Nat → Nat) (base many x : Nat) : Prop := ∃ k, k < many ∧ ν (base + k) = x
/-- a cell; wd 1: not told yet; wd 2: no lump there -/
def pCell (B : Nat → Nat) (n m : Nat) (σ : Nat → Nat) (wd p : Nat) : Except (Nat × Nat) Nat :=
  match pNum B n m 0 (σ 0 - 1) p with
  | .error e => .error e
  | .ok x => match pNum B n m 0 (σ 1 - 1) (tT B n m p) with
    | .error e => .error e
    | .ok y => if (wd = 1 ∧ σ (7 + (6 * y + x)) ≠ 0) ∨ (wd = 2 ∧ isFd σ 43 (σ 2) (6 * y + x)) then .error (3, tF B n m (tT B n m p)) else .ok (6 * y + x)
/-- a new NAME -/
def pName (B : Nat → Nat) (n m : Nat) (σ ν : Nat → Nat) (p : Nat) : Except (Nat × Nat) Nat :=
  if tW B n m p ≠ 31 then .error (1, tF B n m p) else if isFd ν 0 (σ 2) (tC B n p) ∨ isFd ν 6 (σ 3) (tC B n p) then .error (3, tF B n m p) else .ok (tC B n p)
/-- what stands behind: the next place, the numbers, the names -/
abbrev LRes := Except (Nat × Nat) (Nat × (Nat → Nat) × (Nat → Nat))
def lrP : LRes → Nat
  | .error _ => 0
  | .ok v => v.1
def lrS : LRes → Nat → Nat
  | .error _ => fun _ => 0
  | .ok v => v.2.1
def lrN : LRes → Nat → Nat
  | .error _ => fun _ => 0
  | .ok v => v.2.2
def pSize (B : Nat → Nat) (n m p : Nat) (σ ν : Nat → Nat) : LRes :=
  if σ 100 ≠ 0 ∨ σ 101 ≠ 0 ∨ σ 102 ≠ 0 ∨ σ 103 ≠ 0 then .error (3, tF B n m p) else
  match pNum B n m 2 6 (tT B n m p) with
  | .error e => .error e
  | .ok w => match pNum B n m 2 6 (tT B n m (tT B n m p)) with
    | .error e => .error e
    | .ok h => .ok (tT B n m (tT B n m (tT B n m p)), updN (updN (updN σ 0 w) 1 h) 100 1, ν)
def pThick (B : Nat → Nat) (n m p : Nat) (σ ν : Nat → Nat) : LRes :=
  match pCell B n m σ 1 (tT B n m p) with
  | .error e => .error e
  | .ok c => match pNum B n m 1 9 (tT B n m (tT B n m (tT B n m p))) with
    | .error e => .error e
    | .ok t => .ok (tT B n m (tT B n m (tT B n m (tT B n m p))), updN (updN σ (7 + c) t) 101 1, ν)
def pLump (B : Nat → Nat) (n m p : Nat) (σ ν : Nat → Nat) : LRes :=
  if 6 ≤ σ 2 then .error (4, tF B n m p) else
  match pName B n m σ ν (tT B n m p) with
  | .error e => .error e
  | .ok x => match pCell B n m σ 2 (tT B n m (tT B n m p)) with
    | .error e => .error e
    | .ok c => .ok (tT B n m (tT B n m (tT B n m (tT B n m p))), updN (updN (updN σ (43 + σ 2) c) 2 (σ 2 + 1)) 102 1, updN ν (σ 2) x)
def pBoat (B : Nat → Nat) (n m p : Nat) (σ ν : Nat → Nat) : LRes :=
  if 6 ≤ σ 3 then .error (4, tF B n m p) else
  match pName B n m σ ν (tT B n m p) with
  | .error e => .error e
  | .ok x => match pCell B n m σ 3 (tT B n m (tT B n m p)) with
    | .error e => .error e
    | .ok c => match pNum B n m 0 9 (tT B n m (tT B n m (tT B n m (tT B n m p)))) with
      | .error e => .error e
      | .ok a => match pNum B n m 1 9 (tT B n m (tT B n m (tT B n m (tT B n m (tT B n m p))))) with
        | .error e => .error e
        | .ok b => .ok (tT B n m (tT B n m (tT B n m (tT B n m (tT B n m (tT B n m p))))), updN (updN (updN (updN (updN σ (49 + σ 3) c) (55 + σ 3) a) (61 + σ 3) b) 3 (σ 3 + 1)) 103 1, updN ν (6 + σ 3) x)
/-- heat, cools, skin: words 4, 5, 6 -/
def pSet (B : Nat → Nat) (n m p : Nat) (σ ν : Nat → Nat) (k hi : Nat) : LRes :=
  if σ (100 + k) ≠ 0 then .error (3, tF B n m p) else
  match pNum B n m 0 hi (tT B n m p) with
  | .error e => .error e
  | .ok v => .ok (tT B n m (tT B n m p), updN (updN σ k v) (100 + k) 1, ν)
def pLine (B : Nat → Nat) (n m p : Nat) (σ ν : Nat → Nat) : LRes :=
  if tW B n m p = 0 then pSize B n m p σ ν
  else if tW B n m p = 1 then pThick B n m p σ ν
  else if tW B n m p = 2 then pLump B n m p σ ν
  else if tW B n m p = 3 then pBoat B n m p σ ν
  else if tW B n m p = 4 then pSet B n m p σ ν 4 30
  else if tW B n m p = 5 then pSet B n m p σ ν 5 5
  else if tW B n m p = 6 then pSet B n m p σ ν 6 30
  else .error (1, tF B n m p)
def pLoop (B : Nat → Nat) (n m : Nat) : Nat → Nat → (Nat → Nat) → (Nat → Nat) → Nat → LRes
  | 0, _, _, _, _ => .error (0, 0)
  | f + 1, p, σ, ν, k =>
    if tK B n m p = 0 then .ok (k, σ, ν) else
    match pLine B n m p σ ν with
    | .error e => .error e
    | .ok v => if tK B n m v.1 ≠ 59 then .error (1, tF B n m v.1) else pLoop B n m f (tT B n m v.1) v.2.1 v.2.2 (k + 1)
def s0 : Nat → Nat := fun j => if j = 0 ∨ j = 1 then 4 else if j = 4 then 10 else if j = 5 then 1 else if j = 6 then 3 else 0
/-- what a SEA told so is -/
def pSea (B : Nat → Nat) (n : Nat) : LRes := pLoop B n 900 1000 0 s0 (fun _ => 0) 0
/-- numbers of a SEA that can be -/
def SW (σ ν : Nat → Nat) : Prop :=
  2 ≤ σ 0 ∧ σ 0 ≤ 6 ∧ 2 ≤ σ 1 ∧ σ 1 ≤ 6 ∧ σ 2 ≤ 6 ∧ σ 3 ≤ 6 ∧ (∀ c, c < 36 → σ (7 + c) ≤ 9) ∧ (∀ k, k < 12 → σ (43 + k) ≤ 35) ∧ (∀ k, k < 12 → σ (55 + k) ≤ 9) ∧ (∀ k, k < σ 2 → GN (ν k)) ∧ (∀ k, k < σ 3 → GN (ν (6 + k))) ∧ (∀ k, k < 7 → σ (100 + k) ≤ 1) ∧ σ 4 ≤ 30 ∧ σ 5 ≤ 5 ∧ σ 6 ≤ 30
end Parse
def TC (B : Nat → Nat) (f : Nat → Int32) : Prop := ∀ j, j < 940 → B j < 256 ∧ ((f j).toInt = ((B j : Nat) : Int) ∨ (128 ≤ B j ∧ (f j).toInt = ((B j : Nat) : Int) - 256))
def TM (B : Nat → Nat) (f : Nat → Int32) : Prop := ∀ j, j < 940 → B j < 256 ∧ f j = nI (B j)
theorem nI_neg {k : Nat} (h : k < 2147483648) : ¬ nI k = (-1 : Int32) := by
  rw [ia_eq, ia_n k h, ia_m1]
  omega
