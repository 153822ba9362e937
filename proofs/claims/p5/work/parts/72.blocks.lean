theorem va_P.perm {D : va_G} {cl : List vw_C} {ws ws' : va_W} {H : Heap} (h : va_P D cl ws H) (hp : ws.Perm ws') : va_P D cl ws' H := by
  intro k q hk
  obtain ⟨i, hi⟩ := List.getElem?_of_mem (hp.mem_iff.mpr (List.mem_of_getElem? hk))
  exact h i q hi
theorem va_D_pw {A : Nat → Prop} {ws : va_W} : va_D A ws ↔ ws.Pairwise (fun p q => p.1 ≠ q.1) ∧ ∀ q ∈ ws, A q.1 := by
  constructor
  · intro h
    refine ⟨List.pairwise_iff_getElem.mpr (fun i j hi hj hij e => ?_), fun q hq => ?_⟩
    · have := h.1 i j _ _ (List.getElem?_eq_getElem hi) (List.getElem?_eq_getElem hj) e
      omega
    · obtain ⟨k, hk⟩ := List.getElem?_of_mem hq
      exact h.2 k q hk
  · intro h
    refine ⟨fun i j p q hi hj e => ?_, fun k q hk => h.2 q (List.mem_of_getElem? hk)⟩
    obtain ⟨h1, h2⟩ := List.getElem?_eq_some_iff.mp hi
    obtain ⟨h3, h4⟩ := List.getElem?_eq_some_iff.mp hj
    have hp := List.pairwise_iff_getElem.mp h.1
    rcases Nat.lt_trichotomy i j with h5 | h5 | h5
    · exact absurd (by rw [h2, h4]; exact e) (hp i j h1 h3 h5)
    · exact h5
    · exact absurd (by rw [h2, h4]; exact e.symm) (hp j i h3 h1 h5)
theorem va_D.perm {A : Nat → Prop} {ws ws' : va_W} (h : va_D A ws) (hp : ws.Perm ws') : va_D A ws' := by
  rw [va_D_pw] at h ⊢
  exact ⟨(hp.pairwise_iff (fun h => Ne.symm h)).mp h.1, fun q hq => h.2 q (hp.mem_iff.mpr hq)⟩
theorem va_P.right {D : va_G} {cl : List vw_C} {a b : va_W} {H : Heap} (h : va_P D cl (a ++ b) H) : va_P D cl b H := by
  intro k q hk
  obtain ⟨i, hi⟩ := List.getElem?_of_mem (List.mem_append_right a (List.mem_of_getElem? hk))
  exact h i q hi
theorem va_P.left {D : va_G} {cl : List vw_C} {a b : va_W} {H : Heap} (h : va_P D cl (a ++ b) H) : va_P D cl a H := by
  intro k q hk
  obtain ⟨i, hi⟩ := List.getElem?_of_mem (List.mem_append_left b (List.mem_of_getElem? hk))
  exact h i q hi
theorem va_D.right {A : Nat → Prop} {a b : va_W} (h : va_D A (a ++ b)) : va_D A b := by
  rw [va_D_pw] at h ⊢
  exact ⟨(List.pairwise_append.mp h.1).2.1, fun q hq => h.2 q (List.mem_append_right a hq)⟩
theorem va_D.left {A : Nat → Prop} {a b : va_W} (h : va_D A (a ++ b)) : va_D A a := by
  rw [va_D_pw] at h ⊢
  exact ⟨(List.pairwise_append.mp h.1).1, fun q hq => h.2 q (List.mem_append_left b hq)⟩
theorem va_D.apart {A : Nat → Prop} {a b : va_W} (h : va_D A (a ++ b)) : ∀ p ∈ a, ∀ q ∈ b, p.1 ≠ q.1 := by
  rw [va_D_pw] at h
  exact (List.pairwise_append.mp h.1).2.2
theorem ix_mem {is : List Nat} {w v : va_W} (h : is.map (fun i => w[i]?) = v.map some) : ∀ q ∈ v, q ∈ w := by
  intro q hq
  have h1 : some q ∈ is.map (fun i => w[i]?) := by rw [h]; exact List.mem_map.mpr ⟨q, hq, rfl⟩
  obtain ⟨i, -, hi⟩ := List.mem_map.mp h1
  exact List.mem_of_getElem? hi
theorem va_P.mem {D : va_G} {cl : List vw_C} {ws : va_W} {H : Heap} (h : va_P D cl ws H) {q : Nat × va_E} (hq : q ∈ ws) : va_at D cl q H := by
  obtain ⟨i, hi⟩ := List.getElem?_of_mem hq
  exact h i q hi
/-- behind a call: the cells that stood aside, the caller's other cells, the callee's world -/
theorem va_joinB {A0 : Nat → Prop} {D : va_G} {cl : List vw_C} {rs wb wc wr w1 : va_W} {H H1 : Heap} (hP : va_P D cl (rs ++ wb) H) (hD : va_D A0 (rs ++ wb)) (isC isR : List Nat) (hC : isC.map (fun i => wb[i]?) = wc.map some) (hR : isR.map (fun i => wb[i]?) = wr.map some) (hn : va_nd isR = true) (hdis : ∀ i ∈ isR, i ∉ isC)
    (hk : ∀ q : Nat, q < H.size → ¬ va_A wc H.size q → H1[q]? = H[q]?) (hF : ∀ q, va_A wc H.size q → A0 q) (hP1 : va_P D cl w1 H1) (hD1 : va_D (va_A wc H.size) w1) : va_P D cl (rs ++ (wr ++ w1)) H1 ∧ va_D A0 (rs ++ (wr ++ w1)) := by
  obtain ⟨j1, j2⟩ := va_join hP.right hD.right isC isR hC hR hn hdis hk hF hP1 hD1
  have hap : ∀ p ∈ rs, p.1 < H.size ∧ ¬ va_A wc H.size p.1 := by
    intro p hp
    have hl := (hP.left.mem hp).lt
    refine ⟨hl, fun h => ?_⟩
    rcases h with ⟨k, e, h⟩ | h
    · exact hD.apart p hp (p.1, e) (ix_mem hC _ (List.mem_of_getElem? h)) rfl
    · omega
  refine ⟨va_P.app (fun k q hq => ?_) j1, va_D.app hD.left j2 (fun i j x y hx hy hxy => ?_)⟩
  · obtain ⟨g1, g2⟩ := hap q (List.mem_of_getElem? hq)
    exact (hP.left k q hq).kept (hk q.1 g1 g2)
  · rcases List.mem_append.mp (List.mem_of_getElem? hy) with h | h
    · exact hD.apart x (List.mem_of_getElem? hx) y (ix_mem hR _ h) hxy
    · obtain ⟨k2, h2⟩ := List.getElem?_of_mem h
      exact (hap x (List.mem_of_getElem? hx)).2 (by rw [hxy]; exact hD1.2 k2 y h2)
theorem va_P.re {D : va_G} {cl : List vw_C} {rs X X' : va_W} {H : Heap} (h : va_P D cl (rs ++ X) H) (is : List Nat) (hs : is.map (fun i => X[i]?) = X'.map some) : va_P D cl (rs ++ X') H := va_P.app h.left (fun k q hk => h.right.mem (ix_mem hs q (List.mem_of_getElem? hk)))
theorem va_D.re {A : Nat → Prop} {rs X X' : va_W} (h : va_D A (rs ++ X)) (is : List Nat) (hn : va_nd is = true) (hs : is.map (fun i => X[i]?) = X'.map some) : va_D A (rs ++ X') := va_D.app h.left (h.right.sub is hn hs) (fun i j x y hx hy => h.apart x (List.mem_of_getElem? hx) y (ix_mem hs y (List.mem_of_getElem? hy)))
section CallB
variable {p : Program} {l : Launch} {e : Env} {R : Room} {s : State} {m : MethodId} {args : Array Value} {below : List Frame} {meth : Method} {c : Code} {H H0 : Heap} {locs : List Loc} {cells slots : Nat} {Q : State → Prop} {pc : Nat} {ls : Array Slot} {rest : List Value} {A : Nat → Prop} {dC : Nat → ClassId} {dI : Nat → Nat → Nat} {ky : Nat → ClassId}
theorem r_callB_i {S : Type} {post : Int32 → S → Prop} {W1 : S → va_W} {rs wb wc wr : va_W} {av : Array Value} {st0 : List Value} {mc ms : Nat} (hr : va_Run p l e R s m args below meth c H locs cells slots mc ms (F0 m pc ls st0) rest (va_Qi post (BU dC dI ky W1 (va_A wc H.size)) (va_A wc H.size) av) (va_A wc H.size)) (hP : va_P (dC, dI) vwCl (rs ++ wb) H) (hD : va_D A (rs ++ wb)) (hS : va_S A H0 H locs) (hA : ∀ q, H0.size ≤ q → A q) (isC isR : List Nat) (hC : isC.map (fun i => wb[i]?) = wc.map some) (hR : isR.map (fun i => wb[i]?) = wr.map some) (hn : va_nd isR = true) (hdis : ∀ i ∈ isR, i ∉ isC)
    (kk : ∀ (r : Int32) (u : S) (H1 : Heap) (locs1 : List Loc), post r u → va_P (dC, dI) vwCl (rs ++ (wr ++ W1 u)) H1 → va_D A (rs ++ (wr ++ W1 u)) → va_S A H0 H1 locs1 → W p l e R s m args below meth c H1 locs1 (cells + mc) (slots + ms) Q (F0 m (pc + 3) ls (.int r :: rest))) : W p l e R s m args below meth c H locs cells slots Q (F0 m pc ls st0) := by
  have hFc := va_free (wc := wc) hD.right hS hA isC hC
  refine va_calli hr hS (fun q _ h => hFc q h) hFc (fun r u t H1 locs1 ht hvm hw hB hz1 hk1 hS1 => ?_)
  obtain ⟨hP1, hK1, hD1⟩ := hB
  rw [ht] at hP1
  obtain ⟨hP2, hD2⟩ := va_joinB hP hD isC isR hC hR hn hdis hk1 hFc hP1 hD1
  exact kk r u H1 locs1 hw hP2 hD2 hS1
theorem r_callB_v {S : Type} {post : S → Prop} {W1 : S → va_W} {rs wb wc wr : va_W} {av : Array Value} {st0 : List Value} {mc ms : Nat} (hr : va_Run p l e R s m args below meth c H locs cells slots mc ms (F0 m pc ls st0) rest (va_Qv post (BU dC dI ky W1 (va_A wc H.size)) (va_A wc H.size) av) (va_A wc H.size)) (hP : va_P (dC, dI) vwCl (rs ++ wb) H) (hD : va_D A (rs ++ wb)) (hS : va_S A H0 H locs) (hA : ∀ q, H0.size ≤ q → A q) (isC isR : List Nat) (hC : isC.map (fun i => wb[i]?) = wc.map some) (hR : isR.map (fun i => wb[i]?) = wr.map some) (hn : va_nd isR = true) (hdis : ∀ i ∈ isR, i ∉ isC)
    (kk : ∀ (u : S) (H1 : Heap) (locs1 : List Loc), post u → va_P (dC, dI) vwCl (rs ++ (wr ++ W1 u)) H1 → va_D A (rs ++ (wr ++ W1 u)) → va_S A H0 H1 locs1 → W p l e R s m args below meth c H1 locs1 (cells + mc) (slots + ms) Q (F0 m (pc + 3) ls rest)) : W p l e R s m args below meth c H locs cells slots Q (F0 m pc ls st0) := by
  have hFc := va_free (wc := wc) hD.right hS hA isC hC
  refine va_callv hr hS (fun q _ h => hFc q h) hFc (fun u t H1 locs1 ht hvm hw hB hz1 hk1 hS1 => ?_)
  obtain ⟨hP1, hK1, hD1⟩ := hB
  rw [ht] at hP1
  obtain ⟨hP2, hD2⟩ := va_joinB hP hD isC isR hC hR hn hdis hk1 hFc hP1 hD1
  exact kk u H1 locs1 hw hP2 hD2 hS1
end CallB
/-- which seas of the ring bear the head of the sea -/
def QV (hv : Nat → Nat → Nat) (hd : Nat → Nat) (hnext : Nat) (hkept : Int32) : Prop := ∀ j : Nat, j < 8 → ((j : Nat) : Int) < hkept.toInt → hv ((hnext + 7 - j) % 8) = hd
theorem QV_same {hv : Nat → Nat → Nat} {hd : Nat → Nat} {n : Nat} {k : Int32} (h : QV hv hd n k) (i : Nat) : QV (fun j => if i = j then hv i else hv j) hd n k := by
  intro j h1 h2
  have h3 := h j h1 h2
  dsimp only
  by_cases e : i = (n + 7 - j) % 8
  · rw [if_pos e, e]; exact h3
  · rw [if_neg e]; exact h3
theorem QV_keep {hv : Nat → Nat → Nat} {hd : Nat → Nat} {n : Nat} {k k' : Int32} (h : QV hv hd n k) (hn : n < 8) (hk : k'.toInt ≤ k.toInt + 1) : QV (fun j => if n = j then hd else hv j) hd ((n + 1) % 8) k' := by
  intro j h1 h2
  dsimp only
  by_cases e : n = ((n + 1) % 8 + 7 - j) % 8
  · rw [if_pos e]
  · rw [if_neg e]
    have h3 : j ≠ 0 := by
      intro h4
      apply e
      subst h4
      omega
    have h5 := h (j - 1) (by omega) (by omega)
    rw [show ((n + 1) % 8 + 7 - j) % 8 = (n + 7 - (j - 1)) % 8 by omega]
    exact h5
theorem QV_undo {hv : Nat → Nat → Nat} {hd : Nat → Nat} {n : Nat} {k k' : Int32} (h : QV hv hd n k) (hn : n < 8) (hk : k'.toInt = k.toInt - 1) : QV (fun j => if (n + 7) % 8 = j then hv ((n + 7) % 8) else hv j) hd ((n + 7) % 8) k' := by
  intro j h1 h2
  dsimp only
  by_cases h9 : j = 7
  · subst h9
    have h5 := h 0 (by omega) (by omega)
    rw [show ((n + 7) % 8 + 7 - 7) % 8 = (n + 7) % 8 by omega, if_pos rfl]
    exact h5
  · have h5 := h (j + 1) (by omega) (by omega)
    have h6 : ((n + 7) % 8 + 7 - j) % 8 = (n + 7 - (j + 1)) % 8 := by omega
    rw [if_neg (by omega), h6]
    exact h5
theorem QV_0 {hv : Nat → Nat → Nat} {hd : Nat → Nat} {n : Nat} {k : Int32} (h : k.toInt ≤ 0) : QV hv hd n k := fun j _ h2 => absurd h2 (by omega)
theorem QV_top {hv : Nat → Nat → Nat} {hd : Nat → Nat} {n : Nat} {k : Int32} (h : QV hv hd n k) (hk : 0 < k.toInt) : hv ((n + 7) % 8) = hd := h 0 (by decide) hk
def Q11 (ky : Nat → ClassId) (t : Nat) (reader : Nat) (sea : Nat) (spareSea : Nat) (seaText : Nat) (book : Nat) (sentence : Nat) (spareSentence : Nat) (route : Nat) (meeting : Nat) (sighting : Nat) (draws : Nat) (history : Nat) (images : Nat) (chartBytes : Nat) (tapeLength : Nat) (latestFault : Int32) (w : va_W) : Prop := ∃ (chartLength : Nat) (fleetBits : Int32), w = [(t, .inr (11, [.ref reader, .int (nI tapeLength), .int latestFault, .ref sea, .ref spareSea, .ref seaText, .ref book, .ref sentence, .ref spareSentence, .ref route, .ref meeting, .ref sighting, .ref draws, .ref history, .ref images, .ref chartBytes, .int (nI chartLength), .int fleetBits]))] ∧ (tapeLength ≤ 940) ∧ (chartLength ≤ 32)
def Q5 (ky : Nat → ClassId) (reader : Nat) (bt : Nat → Nat) (w : va_W) : Prop := ∃ (rtape : Nat) (rlength : Nat) (rmostBytes : Nat) (rplace : Nat) (rkind : Int32) (rbegin : Nat) (rword : Int32) (rnumber : Int32) (rletters : Int64) (rfaultKind : Int32) (rfaultPlace : Int32) (rtapeF : Nat → Int32), w = [(reader, .inr (5, [.ref rtape, .int (nI rlength), .int (nI rmostBytes), .int (nI rplace), .int rkind, .int (nI rbegin), .int rword, .int rnumber, .long rletters, .int rfaultKind, .int rfaultPlace])), (rtape, .inl (ky 2, 940, .inl rtapeF))] ∧ (rlength ≤ 940) ∧ (rplace ≤ rlength) ∧ (rmostBytes ≤ 900) ∧ (rbegin ≤ 940) ∧ (TC bt rtapeF)
def Q7h (ky : Nat → ClassId) (sea : Nat) (hd : Nat → Nat) (w : va_W) : Prop := ∃ (wide : Nat) (high : Nat) (heat : Int32) (cools : Int32) (skinHeat : Int32) (today : Int32) (stirs : Int32) (steps : Int32) (lumps : Nat) (boats : Nat) (thickness : Nat) (lumpNames : Nat) (lumpCells : Nat) (boatNames : Nat) (boatCells : Nat) (loads : Nat) (spoons : Nat) (spoonsLeft : Nat) (depths : Nat) (thicknessF : Nat → Int32) (lumpNamesF : Nat → Int64) (lumpCellsF : Nat → Int32) (boatNamesF : Nat → Int64) (boatCellsF : Nat → Int32) (loadsF : Nat → Int32) (spoonsF : Nat → Int32) (spoonsLeftF : Nat → Int32) (depthsF : Nat → Int32), w = [(sea, .inr (7, [.int (nI wide), .int (nI high), .int heat, .int cools, .int skinHeat, .int today, .int stirs, .int steps, .int (nI lumps), .int (nI boats), .ref thickness, .ref lumpNames, .ref lumpCells, .ref boatNames, .ref boatCells, .ref loads, .ref spoons, .ref spoonsLeft, .ref depths])), (thickness, .inl (ky 0, 36, .inl thicknessF)), (lumpNames, .inl (ky 1, 6, .inr (.inl lumpNamesF))), (lumpCells, .inl (ky 0, 6, .inl lumpCellsF)), (boatNames, .inl (ky 1, 6, .inr (.inl boatNamesF))), (boatCells, .inl (ky 0, 6, .inl boatCellsF)), (loads, .inl (ky 0, 6, .inl loadsF)), (spoons, .inl (ky 0, 6, .inl spoonsF)), (spoonsLeft, .inl (ky 0, 6, .inl spoonsLeftF)), (depths, .inl (ky 0, 6, .inl depthsF))] ∧ (2 ≤ wide) ∧ (wide ≤ 6) ∧ (2 ≤ high) ∧ (high ≤ 6) ∧ (lumps ≤ 6) ∧ (boats ≤ 6) ∧ (HCl hd lumps boats lumpNamesF boatNamesF)
def Q7 (ky : Nat → ClassId) (spareSea : Nat) (w : va_W) : Prop := ∃ (pwide : Nat) (phigh : Nat) (pheat : Int32) (pcools : Int32) (pskinHeat : Int32) (ptoday : Int32) (pstirs : Int32) (psteps : Int32) (plumps : Nat) (pboats : Nat) (pthickness : Nat) (plumpNames : Nat) (plumpCells : Nat) (pboatNames : Nat) (pboatCells : Nat) (ploads : Nat) (pspoons : Nat) (pspoonsLeft : Nat) (pdepths : Nat) (pthicknessF : Nat → Int32) (plumpNamesF : Nat → Int64) (plumpCellsF : Nat → Int32) (pboatNamesF : Nat → Int64) (pboatCellsF : Nat → Int32) (ploadsF : Nat → Int32) (pspoonsF : Nat → Int32) (pspoonsLeftF : Nat → Int32) (pdepthsF : Nat → Int32), w = [(spareSea, .inr (7, [.int (nI pwide), .int (nI phigh), .int pheat, .int pcools, .int pskinHeat, .int ptoday, .int pstirs, .int psteps, .int (nI plumps), .int (nI pboats), .ref pthickness, .ref plumpNames, .ref plumpCells, .ref pboatNames, .ref pboatCells, .ref ploads, .ref pspoons, .ref pspoonsLeft, .ref pdepths])), (pthickness, .inl (ky 0, 36, .inl pthicknessF)), (plumpNames, .inl (ky 1, 6, .inr (.inl plumpNamesF))), (plumpCells, .inl (ky 0, 6, .inl plumpCellsF)), (pboatNames, .inl (ky 1, 6, .inr (.inl pboatNamesF))), (pboatCells, .inl (ky 0, 6, .inl pboatCellsF)), (ploads, .inl (ky 0, 6, .inl ploadsF)), (pspoons, .inl (ky 0, 6, .inl pspoonsF)), (pspoonsLeft, .inl (ky 0, 6, .inl pspoonsLeftF)), (pdepths, .inl (ky 0, 6, .inl pdepthsF))] ∧ (2 ≤ pwide) ∧ (pwide ≤ 6) ∧ (2 ≤ phigh) ∧ (phigh ≤ 6) ∧ (plumps ≤ 6) ∧ (pboats ≤ 6)
def Q8 (ky : Nat → ClassId) (seaText : Nat) (w : va_W) : Prop := ∃ (qtoldWords : Int32), w = [(seaText, .inr (8, [.int qtoldWords]))]
def Q0 (ky : Nat → ClassId) (book : Nat) (w : va_W) : Prop := ∃ (blines : Nat) (blineCount : Nat) (blived : Int32) (bwhyWrong : Int32) (bfineLines : Int32) (bdayThen : Int32) (beatenThen : Int32) (blinesF : Nat → Int32), w = [(book, .inr (0, [.ref blines, .int (nI blineCount), .int blived, .int bwhyWrong, .int bfineLines, .int bdayThen, .int beatenThen])), (blines, .inl (ky 0, 160, .inl blinesF))] ∧ (blineCount ≤ 40)
def Q9 (ky : Nat → ClassId) (sentence : Nat) (w : va_W) : Prop := ∃ (ccodes : Nat) (ccodeCount : Nat) (cones : Int32) (ccodesF : Nat → Int32), w = [(sentence, .inr (9, [.ref ccodes, .int (nI ccodeCount), .int cones])), (ccodes, .inl (ky 0, 40, .inl ccodesF))] ∧ (ccodeCount ≤ 40)
def Q6 (ky : Nat → ClassId) (route : Nat) (w : va_W) : Prop := ∃ (ofarness : Nat) (osides : Nat) (ostepCount : Nat) (odaysTaken : Int32) (ofarnessF : Nat → Int32) (osidesF : Nat → Int32), w = [(route, .inr (6, [.ref ofarness, .ref osides, .int (nI ostepCount), .int odaysTaken])), (ofarness, .inl (ky 0, 36, .inl ofarnessF)), (osides, .inl (ky 0, 36, .inl osidesF))] ∧ (ostepCount ≤ 36)
def Q4 (ky : Nat → ClassId) (meeting : Nat) (w : va_W) : Prop := ∃ (mtried : Nat) (mfound : Nat) (mfoundCount : Nat) (mtriedF : Nat → Int32) (mfoundF : Nat → Int32), w = [(meeting, .inr (4, [.ref mtried, .ref mfound, .int (nI mfoundCount)])), (mtried, .inl (ky 0, 3, .inl mtriedF)), (mfound, .inl (ky 0, 3, .inl mfoundF))] ∧ (mfoundCount ≤ 3)
def Q10 (ky : Nat → ClassId) (sighting : Nat) (w : va_W) : Prop := ∃ (icellBits : Int64) (ibestBoat : Int32), w = [(sighting, .inr (10, [.long icellBits, .int ibestBoat]))]
def Q1 (ky : Nat → ClassId) (draws : Nat) (w : va_W) : Prop := ∃ (dx : Int32), w = [(draws, .inr (1, [.int dx]))]
def Q2 (ky : Nat → ClassId) (history : Nat) (ringF : Nat → Option Nat) (hnext : Nat) (hkept : Int32) (w : va_W) : Prop := ∃ (hring : Nat), w = [(history, .inr (2, [.ref hring, .int (nI hnext), .int hkept])), (hring, .inl (ky 4, 8, .inr (.inr (.inr (.inr ringF)))))] ∧ (hnext < 8) ∧ (0 ≤ hkept.toInt ∧ hkept.toInt ≤ 8)
def Qch (ky : Nat → ClassId) (chartBytes : Nat) (w : va_W) : Prop := ∃ (chartF : Nat → Int32), w = [(chartBytes, .inl (ky 2, 32, .inl chartF))]
def Qia (ky : Nat → ClassId) (images : Nat) (imF : Nat → Option Nat) (w : va_W) : Prop := w = [(images, .inl (ky 5, 2, .inr (.inr (.inr (.inr imF)))))]
def Q3 (ky : Nat → ClassId) (im : Nat) (vkept : Int32) (hw : Nat → Nat) (w : va_W) : Prop := ∃ (vsea : Nat) (vsentence : Nat) (wwide : Nat) (whigh : Nat) (wheat : Int32) (wcools : Int32) (wskinHeat : Int32) (wtoday : Int32) (wstirs : Int32) (wsteps : Int32) (wlumps : Nat) (wboats : Nat) (wthickness : Nat) (wlumpNames : Nat) (wlumpCells : Nat) (wboatNames : Nat) (wboatCells : Nat) (wloads : Nat) (wspoons : Nat) (wspoonsLeft : Nat) (wdepths : Nat) (wthicknessF : Nat → Int32) (wlumpNamesF : Nat → Int64) (wlumpCellsF : Nat → Int32) (wboatNamesF : Nat → Int64) (wboatCellsF : Nat → Int32) (wloadsF : Nat → Int32) (wspoonsF : Nat → Int32) (wspoonsLeftF : Nat → Int32) (wdepthsF : Nat → Int32) (zcodes : Nat) (zcodeCount : Nat) (zones : Int32) (zcodesF : Nat → Int32), w = [(im, .inr (3, [.ref vsea, .ref vsentence, .int vkept])), (vsea, .inr (7, [.int (nI wwide), .int (nI whigh), .int wheat, .int wcools, .int wskinHeat, .int wtoday, .int wstirs, .int wsteps, .int (nI wlumps), .int (nI wboats), .ref wthickness, .ref wlumpNames, .ref wlumpCells, .ref wboatNames, .ref wboatCells, .ref wloads, .ref wspoons, .ref wspoonsLeft, .ref wdepths])), (wthickness, .inl (ky 0, 36, .inl wthicknessF)), (wlumpNames, .inl (ky 1, 6, .inr (.inl wlumpNamesF))), (wlumpCells, .inl (ky 0, 6, .inl wlumpCellsF)), (wboatNames, .inl (ky 1, 6, .inr (.inl wboatNamesF))), (wboatCells, .inl (ky 0, 6, .inl wboatCellsF)), (wloads, .inl (ky 0, 6, .inl wloadsF)), (wspoons, .inl (ky 0, 6, .inl wspoonsF)), (wspoonsLeft, .inl (ky 0, 6, .inl wspoonsLeftF)), (wdepths, .inl (ky 0, 6, .inl wdepthsF)), (vsentence, .inr (9, [.ref zcodes, .int (nI zcodeCount), .int zones])), (zcodes, .inl (ky 0, 40, .inl zcodesF))] ∧ (2 ≤ wwide) ∧ (wwide ≤ 6) ∧ (2 ≤ whigh) ∧ (whigh ≤ 6) ∧ (wlumps ≤ 6) ∧ (wboats ≤ 6) ∧ (zcodeCount ≤ 40) ∧ (vkept = 0 ∨ HCl hw wlumps wboats wlumpNamesF wboatNamesF)
/-- the seas of the ring, each at its place -/
def QR (ky : Nat → ClassId) (ringF : Nat → Option Nat) (hd : Nat → Nat) (hnext : Nat) (hkept : Int32) (w : va_W) : Prop := ∃ (ad : Nat → Nat) (hv : Nat → Nat → Nat) (wl : Nat → va_W), (∀ i, i < 8 → ringF i = some (ad i) ∧ Q7h ky (ad i) (hv i) (wl i)) ∧ QV hv hd hnext hkept ∧ w = wl 0 ++ wl 1 ++ wl 2 ++ wl 3 ++ wl 4 ++ wl 5 ++ wl 6 ++ wl 7
/-- an object of the class, whole -/
def CI (ky : Nat → ClassId) (t tapeLength : Nat) (z0 z1 : Int32) (bt : Nat → Nat) (hd hw0 hw1 : Nat → Nat) (lf : Int32) (w : va_W) : Prop := ∃ (reader sea spareSea seaText book sentence spareSentence route meeting sighting draws history images chartBytes im0 im1 : Nat) (ringF imF : Nat → Option Nat) (hnext : Nat) (hkept : Int32) (w_ps w_rd w_sea w_spare w_txt w_book w_sent w_ssent w_route w_meet w_sight w_draws w_hist w_ring w_chart w_ima w_im0 w_im1 : va_W), w = w_ps ++ w_rd ++ w_sea ++ w_spare ++ w_txt ++ w_book ++ w_sent ++ w_ssent ++ w_route ++ w_meet ++ w_sight ++ w_draws ++ w_hist ++ w_ring ++ w_chart ++ w_ima ++ w_im0 ++ w_im1 ∧ Q11 ky t reader sea spareSea seaText book sentence spareSentence route meeting sighting draws history images chartBytes tapeLength lf w_ps ∧ Q5 ky reader bt w_rd ∧ Q7h ky sea hd w_sea ∧ Q7 ky spareSea w_spare ∧ Q8 ky seaText w_txt ∧ Q0 ky book w_book ∧ Q9 ky sentence w_sent ∧ Q9 ky spareSentence w_ssent ∧ Q6 ky route w_route ∧ Q4 ky meeting w_meet ∧ Q10 ky sighting w_sight ∧ Q1 ky draws w_draws ∧ Q2 ky history ringF hnext hkept w_hist ∧ QR ky ringF hd hnext hkept w_ring ∧ Qch ky chartBytes w_chart ∧ Qia ky images imF w_ima ∧ Q3 ky im0 z0 hw0 w_im0 ∧ Q3 ky im1 z1 hw1 w_im1 ∧ imF 0 = some im0 ∧ imF 1 = some im1
theorem ring_pmA {α : Type} (wl : Nat → List α) (i : Nat) (hi : i < 8) : (wl 0 ++ wl 1 ++ wl 2 ++ wl 3 ++ wl 4 ++ wl 5 ++ wl 6 ++ wl 7).Perm (((if i = 0 then [] else wl 0) ++ (if i = 1 then [] else wl 1) ++ (if i = 2 then [] else wl 2) ++ (if i = 3 then [] else wl 3) ++ (if i = 4 then [] else wl 4) ++ (if i = 5 then [] else wl 5) ++ (if i = 6 then [] else wl 6) ++ (if i = 7 then [] else wl 7)) ++ wl i) := by
  classical
  refine List.perm_iff_count.mpr (fun a9 => ?_)
  rcases (show i = 0 ∨ i = 1 ∨ i = 2 ∨ i = 3 ∨ i = 4 ∨ i = 5 ∨ i = 6 ∨ i = 7 by omega) with rfl | rfl | rfl | rfl | rfl | rfl | rfl | rfl
  all_goals simp [List.count_append]
  all_goals omega
theorem ring_pmB {α : Type} (wl : Nat → List α) (v : List α) (i : Nat) (hi : i < 8) : (((if i = 0 then [] else wl 0) ++ (if i = 1 then [] else wl 1) ++ (if i = 2 then [] else wl 2) ++ (if i = 3 then [] else wl 3) ++ (if i = 4 then [] else wl 4) ++ (if i = 5 then [] else wl 5) ++ (if i = 6 then [] else wl 6) ++ (if i = 7 then [] else wl 7)) ++ v).Perm ((if i = 0 then v else wl 0) ++ (if i = 1 then v else wl 1) ++ (if i = 2 then v else wl 2) ++ (if i = 3 then v else wl 3) ++ (if i = 4 then v else wl 4) ++ (if i = 5 then v else wl 5) ++ (if i = 6 then v else wl 6) ++ (if i = 7 then v else wl 7)) := by
  classical
  refine List.perm_iff_count.mpr (fun a9 => ?_)
  rcases (show i = 0 ∨ i = 1 ∨ i = 2 ∨ i = 3 ∨ i = 4 ∨ i = 5 ∨ i = 6 ∨ i = 7 by omega) with rfl | rfl | rfl | rfl | rfl | rfl | rfl | rfl
  all_goals simp [List.count_append]
  all_goals omega
theorem QR_take {ky : Nat → ClassId} {ringF : Nat → Option Nat} {hd : Nat → Nat} {hnext : Nat} {hkept : Int32} {w : va_W} (h : QR ky ringF hd hnext hkept w) {i : Nat} (hi : i < 8) : ∃ (rg : Nat) (hv : Nat → Nat → Nat) (w1 w2 : va_W), ringF i = some rg ∧ Q7h ky rg (hv i) w1 ∧ QV hv hd hnext hkept ∧ w.Perm (w2 ++ w1) ∧ ∀ (v1 : va_W) (hv1 hd1 : Nat → Nat) (hn1 : Nat) (hk1 : Int32), Q7h ky rg hv1 v1 → QV (fun j => if i = j then hv1 else hv j) hd1 hn1 hk1 → ∃ v : va_W, QR ky ringF hd1 hn1 hk1 v ∧ (w2 ++ v1).Perm v := by
  obtain ⟨ad, hv, wl, h1, h2, rfl⟩ := h
  have key : ∀ (v1 : va_W) (hv1 hd1 : Nat → Nat) (hn1 : Nat) (hk1 : Int32), Q7h ky (ad i) hv1 v1 → QV (fun j => if i = j then hv1 else hv j) hd1 hn1 hk1 → QR ky ringF hd1 hn1 hk1 ((if i = 0 then v1 else wl 0) ++ (if i = 1 then v1 else wl 1) ++ (if i = 2 then v1 else wl 2) ++ (if i = 3 then v1 else wl 3) ++ (if i = 4 then v1 else wl 4) ++ (if i = 5 then v1 else wl 5) ++ (if i = 6 then v1 else wl 6) ++ (if i = 7 then v1 else wl 7)) := by
    intro v1 hv1 hd1 hn1 hk1 hq hV
    refine ⟨ad, fun j => if i = j then hv1 else hv j, fun j => if i = j then v1 else wl j, fun j hj => ⟨(h1 j hj).1, ?_⟩, hV, rfl⟩
    by_cases e : i = j
    · subst e
      show Q7h ky (ad i) (if i = i then hv1 else hv i) (if i = i then v1 else wl i)
      rw [if_pos rfl, if_pos rfl]; exact hq
    · show Q7h ky (ad j) (if i = j then hv1 else hv j) (if i = j then v1 else wl j)
      rw [if_neg e, if_neg e]; exact (h1 j hj).2
  exact ⟨ad i, hv, wl i, _, (h1 i hi).1, (h1 i hi).2, h2, ring_pmA wl i hi, fun v1 hv1 hd1 hn1 hk1 hq hV => ⟨_, key v1 hv1 hd1 hn1 hk1 hq hV, ring_pmB wl v1 i hi⟩⟩
theorem QR_re {ky : Nat → ClassId} {ringF : Nat → Option Nat} {hd hd1 : Nat → Nat} {hn hn1 : Nat} {hk hk1 : Int32} {w : va_W} (h : QR ky ringF hd hn hk w) (f : ∀ hv, QV hv hd hn hk → QV hv hd1 hn1 hk1) : QR ky ringF hd1 hn1 hk1 w := by
  obtain ⟨ad, hv, wl, h1, h2, h3⟩ := h
  exact ⟨ad, hv, wl, h1, f hv h2, h3⟩
theorem k_pos {k : Int32} (h : ¬ k = 0) (h2 : 0 ≤ k.toInt) : 0 < k.toInt := by
  rw [ia_eq, ia_0] at h
  omega
theorem seaH_f {x : LRes} {hd : Nat → Nat} (h : isO x = false) : seaH x hd = hd := if_neg (by rw [h]; decide)
def imH (k x : Int32) (hd hw : Nat → Nat) : Nat → Nat := if x = k then hd else hw
def resH (x z0 z1 : Int32) (hw0 hw1 hd : Nat → Nat) : Nat → Nat := if x = nI 0 then (if z0 = 0 then hd else hw0) else if x = nI 1 then (if z1 = 0 then hd else hw1) else hd
theorem resH_eq {x z0 z1 k0 k1 : Int32} {hw0 hw1 hd : Nat → Nat} (h0 : z0 = 0 ↔ k0 = 0) (h1 : z1 = 0 ↔ k1 = 0) : resH x z0 z1 hw0 hw1 hd = resH x k0 k1 hw0 hw1 hd := by
  unfold resH
  by_cases a : z0 = 0 <;> by_cases b : z1 = 0 <;> simp [a, b, h0.symm, h1.symm]
theorem res_t0 {z0 z1 : Int32} {hw0 hw1 hd : Nat → Nat} (h : ¬ z0 = 0) : hw0 = resH (nI 0) z0 z1 hw0 hw1 hd := by unfold resH; rw [if_pos rfl, if_neg h]
theorem res_f0 {z0 z1 : Int32} {hw0 hw1 hd : Nat → Nat} (h : z0 = 0) : hd = resH (nI 0) z0 z1 hw0 hw1 hd := by unfold resH; rw [if_pos rfl, if_pos h]
theorem res_t1 {z0 z1 : Int32} {hw0 hw1 hd : Nat → Nat} (h : ¬ z1 = 0) : hw1 = resH (nI 1) z0 z1 hw0 hw1 hd := by unfold resH; rw [if_neg (by decide), if_pos rfl, if_neg h]
theorem res_f1 {z0 z1 : Int32} {hw0 hw1 hd : Nat → Nat} (h : z1 = 0) : hd = resH (nI 1) z0 z1 hw0 hw1 hd := by unfold resH; rw [if_neg (by decide), if_pos rfl, if_pos h]
theorem res_n {x z0 z1 : Int32} {hw0 hw1 hd : Nat → Nat} (e0 : ¬ x = nI 0) (e1 : ¬ x = nI 1) : hd = resH x z0 z1 hw0 hw1 hd := by unfold resH; rw [if_neg e0, if_neg e1]
theorem imH_y (k : Int32) (hd hw : Nat → Nat) : hd = imH k k hd hw := (if_pos rfl).symm
theorem imH_n {k x : Int32} {hd hw : Nat → Nat} (h : ¬ x = k) : hw = imH k x hd hw := (if_neg h).symm
def imgR (x : Int32) : Int32 := if x = nI 0 ∨ x = nI 1 then nI 1 else nI 0
theorem img_r {x : Int32} (h0 : ¬ x = nI 0) (h1 : ¬ x = nI 1) : imgR x = nI 0 := by
  unfold imgR
  rw [if_neg (fun h => h.elim h0 h1)]
theorem img_no {x : Int32} (h0 : ¬ x = nI 0) (h1 : ¬ x = nI 1) : ¬ (0 ≤ x.toInt ∧ x.toInt < 2) := by
  have k0 := ia_n 0 (by decide)
  have k1 := ia_n 1 (by decide)
  simp only [ia_eq] at h0 h1
  omega
theorem img_no1 {x : Int32} (h0 : ¬ x = nI 0) (h1 : ¬ x = nI 1) : ¬ (0 ≤ x.toInt ∧ x.toInt ≤ 1) := by
  have k0 := ia_n 0 (by decide)
  have k1 := ia_n 1 (by decide)
  simp only [ia_eq] at h0 h1
  omega
