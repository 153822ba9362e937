set_option maxRecDepth 20000 in
theorem lf_g_oneOf8_1 (bt : Nat → Nat) (ksize : Nat) (klimit : Nat) (kto : Nat) (kfrom : Nat) (kkind : Int32) (knumber : Int32) (ksign : Int32) (kword : Int64) (ktapeF : Nat → Int32) (hp : Nat) (k7 : Nat) (n11 : Nat) (iv_ko_1 : ksize ≤ 940) (iv_ko_2 : klimit ≤ 900) (iv_ko_3 : kto ≤ ksize) (iv_ko_4 : kfrom ≤ 940) (hTM : TM bt ktapeF) (hMT : MT bt ksize klimit hp kkind ksign kfrom kto knumber kword) (j8 : k7 ≤ 10) (j9 : 8 ≤ k7) (jW : ∀ j, 8 ≤ j → j < k7 → ¬ tW bt ksize klimit hp = j) (hm13 : 10 - k7 < n11 + 1) (c14 : 9 < k7) (c15 : k7 ≤ 9) : 8 ≤ k7 := by
  have b_kkind := ia_b kkind
  have b_knumber := ia_b knumber
  have b_ksign := ia_b ksign
  have b_kword := Int64.toInt_lt kword
  try simp only [ia_lt, ia_le, ia_eq, ia_m1, ia_0, ia_1, ne_eq, true_and, and_true, false_and, and_false, or_false, false_or, or_true, true_or, not_true_eq_false, not_false_eq_true] at *
  all_goals omega
set_option maxRecDepth 20000 in
theorem lf_g_oneOf8_2 (bt : Nat → Nat) (ksize : Nat) (klimit : Nat) (kto : Nat) (kfrom : Nat) (kkind : Int32) (knumber : Int32) (ksign : Int32) (kfault : Int32) (kplace : Int32) (kword : Int64) (ktapeF : Nat → Int32) (hp : Nat) (k7 : Nat) (n11 : Nat) (ktoG_18 : Nat) (kfromG_19 : Nat) (kkindG_20 : Int32) (knumberG_21 : Int32) (ksignG_22 : Int32) (kwordG_23 : Int64) (iv_ko_1 : ksize ≤ 940) (iv_ko_2 : klimit ≤ 900) (iv_ko_3 : kto ≤ ksize) (iv_ko_4 : kfrom ≤ 940) (hTM : TM bt ktapeF) (hMT : MT bt ksize klimit hp kkind ksign kfrom kto knumber kword) (j8 : k7 ≤ 10) (j9 : 8 ≤ k7) (jW : ∀ j, 8 ≤ j → j < k7 → ¬ tW bt ksize klimit hp = j) (hm13 : 10 - k7 < n11 + 1) (c14 : 9 < k7) (c15 : k7 ≤ 9) (p24 : ktoG_18 ≤ ksize) (p25 : kfromG_19 ≤ 940) (p26 : MT bt ksize klimit (tT bt ksize klimit hp) kkindG_20 ksignG_22 kfromG_19 ktoG_18 knumberG_21 kwordG_23) : ((nI 1) = nI 1 ∧ (isO (pOne bt ksize klimit 8 9 hp) = true ∧ MT bt ksize klimit (tT bt ksize klimit hp) kkindG_20 ksignG_22 kfromG_19 ktoG_18 knumberG_21 kwordG_23 ∧ 0 ≤ (nI (k7 - 8)).toInt ∧ (nI (k7 - 8)).toInt ≤ 1 ∧ kfault = kfault ∧ kplace = kplace)) ∨ ((nI 1) = nI 0 ∧ (isO (pOne bt ksize klimit 8 9 hp) = false ∧ kfault = nI (erA (pOne bt ksize klimit 8 9 hp)) ∧ kplace = nI (erB (pOne bt ksize klimit 8 9 hp)))) := by
  have b9 : 0 ≤ (nI (k7 - 8)).toInt ∧ (nI (k7 - 8)).toInt ≤ 1 := by
    have b_kkind := ia_b kkind
    have b_knumber := ia_b knumber
    have b_ksign := ia_b ksign
    have b_kfault := ia_b kfault
    have b_kplace := ia_b kplace
    have b_kkindG_20 := ia_b kkindG_20
    have b_knumberG_21 := ia_b knumberG_21
    have b_ksignG_22 := ia_b ksignG_22
    have b_kword := Int64.toInt_lt kword
    have b_kwordG_23 := Int64.toInt_lt kwordG_23
    try have k_0 := ia_n 1 (by first | decide | omega)
    try have k_1 := ia_n (k7 - 8) (by first | decide | omega)
    try have k_2 := ia_n 0 (by first | decide | omega)
    try have k_3 := ia_n (erA (pOne bt ksize klimit 8 9 hp)) (by first | decide | omega)
    try have k_4 := ia_n (erB (pOne bt ksize klimit 8 9 hp)) (by first | decide | omega)
    try simp only [ia_lt, ia_le, ia_eq, ia_m1, ia_0, ia_1, ne_eq, true_and, and_true, false_and, and_false, or_false, false_or, or_true, true_or, not_true_eq_false, not_false_eq_true] at *
    all_goals omega
  rw [one_o (lo := 8) (hi := 9) (by omega) (by omega)]
  exact Or.inl ⟨rfl, rfl, ‹_›, b9.1, b9.2, (by first | rfl | assumption | (subst_vars; rfl) | (subst_vars; assumption)), (by first | rfl | assumption | (subst_vars; rfl) | (subst_vars; assumption))⟩
set_option maxRecDepth 20000 in
theorem lf_g_oneOf8_3 (bt : Nat → Nat) (ksize : Nat) (klimit : Nat) (kto : Nat) (kfrom : Nat) (kkind : Int32) (knumber : Int32) (ksign : Int32) (kfault : Int32) (kplace : Int32) (kword : Int64) (ktold : Int32) (ktapeF : Nat → Int32) (hp : Nat) (k7 : Nat) (n11 : Nat) (kfaultG_30 : Int32) (kplaceG_31 : Int32) (iv_ko_1 : ksize ≤ 940) (iv_ko_2 : klimit ≤ 900) (iv_ko_3 : kto ≤ ksize) (iv_ko_4 : kfrom ≤ 940) (hTM : TM bt ktapeF) (hMT : MT bt ksize klimit hp kkind ksign kfrom kto knumber kword) (j8 : k7 ≤ 10) (j9 : 8 ≤ k7) (jW : ∀ j, 8 ≤ j → j < k7 → ¬ tW bt ksize klimit hp = j) (hm13 : 10 - k7 < n11 + 1) (c14 : 9 < k7) (c15 : 9 < k7) (p33 : kfaultG_30 = (if tK bt ksize klimit hp = 1 then nI 1 else (nI 1))) (p34 : kplaceG_31 = nI (tF bt ksize klimit hp)) : ((nI 0) = nI 1 ∧ (isO (pOne bt ksize klimit 8 9 hp) = true ∧ MT bt ksize klimit (tT bt ksize klimit hp) kkind ksign kfrom kto knumber kword ∧ 0 ≤ ktold.toInt ∧ ktold.toInt ≤ 1 ∧ kfaultG_30 = kfault ∧ kplaceG_31 = kplace)) ∨ ((nI 0) = nI 0 ∧ (isO (pOne bt ksize klimit 8 9 hp) = false ∧ kfaultG_30 = nI (erA (pOne bt ksize klimit 8 9 hp)) ∧ kplaceG_31 = nI (erB (pOne bt ksize klimit 8 9 hp)))) := by
  rw [one_e (lo := 8) (hi := 9) (fun z => jW _ z.1 (by omega) rfl)]
  subst_vars
  exact Or.inr ⟨rfl, rfl, bad1, rfl⟩
set_option maxRecDepth 20000 in
theorem lf_g_oneOf8_4 (bt : Nat → Nat) (ksize : Nat) (klimit : Nat) (kto : Nat) (kfrom : Nat) (kkind : Int32) (knumber : Int32) (ksign : Int32) (kword : Int64) (ktapeF : Nat → Int32) (hp : Nat) (k7 : Nat) (n11 : Nat) (iv_ko_1 : ksize ≤ 940) (iv_ko_2 : klimit ≤ 900) (iv_ko_3 : kto ≤ ksize) (iv_ko_4 : kfrom ≤ 940) (hTM : TM bt ktapeF) (hMT : MT bt ksize klimit hp kkind ksign kfrom kto knumber kword) (j8 : k7 ≤ 10) (j9 : 8 ≤ k7) (jW : ∀ j, 8 ≤ j → j < k7 → ¬ tW bt ksize klimit hp = j) (hm13 : 10 - k7 < n11 + 1) (c14 : k7 ≤ 9) : k7 < 31 := by
  have b_kkind := ia_b kkind
  have b_knumber := ia_b knumber
  have b_ksign := ia_b ksign
  have b_kword := Int64.toInt_lt kword
  try simp only [ia_lt, ia_le, ia_eq, ia_m1, ia_0, ia_1, ne_eq, true_and, and_true, false_and, and_false, or_false, false_or, or_true, true_or, not_true_eq_false, not_false_eq_true] at *
  all_goals omega
set_option maxRecDepth 20000 in
theorem lf_g_oneOf8_5 (bt : Nat → Nat) (ksize : Nat) (klimit : Nat) (kto : Nat) (kfrom : Nat) (kkind : Int32) (knumber : Int32) (ksign : Int32) (kword : Int64) (ktapeF : Nat → Int32) (hp : Nat) (k7 : Nat) (n11 : Nat) (iv_ko_1 : ksize ≤ 940) (iv_ko_2 : klimit ≤ 900) (iv_ko_3 : kto ≤ ksize) (iv_ko_4 : kfrom ≤ 940) (hTM : TM bt ktapeF) (hMT : MT bt ksize klimit hp kkind ksign kfrom kto knumber kword) (j8 : k7 ≤ 10) (j9 : 8 ≤ k7) (jW : ∀ j, 8 ≤ j → j < k7 → ¬ tW bt ksize klimit hp = j) (hm13 : 10 - k7 < n11 + 1) (c14 : k7 ≤ 9) (t39 : tW bt ksize klimit hp = k7) (c42 : k7 ≤ 9) : 8 ≤ k7 := by
  have b_kkind := ia_b kkind
  have b_knumber := ia_b knumber
  have b_ksign := ia_b ksign
  have b_kword := Int64.toInt_lt kword
  try simp only [ia_lt, ia_le, ia_eq, ia_m1, ia_0, ia_1, ne_eq, true_and, and_true, false_and, and_false, or_false, false_or, or_true, true_or, not_true_eq_false, not_false_eq_true] at *
  all_goals omega
set_option maxRecDepth 20000 in
theorem lf_g_oneOf8_6 (bt : Nat → Nat) (ksize : Nat) (klimit : Nat) (kto : Nat) (kfrom : Nat) (kkind : Int32) (knumber : Int32) (ksign : Int32) (kfault : Int32) (kplace : Int32) (kword : Int64) (ktapeF : Nat → Int32) (hp : Nat) (k7 : Nat) (n11 : Nat) (ktoG_45 : Nat) (kfromG_46 : Nat) (kkindG_47 : Int32) (knumberG_48 : Int32) (ksignG_49 : Int32) (kwordG_50 : Int64) (iv_ko_1 : ksize ≤ 940) (iv_ko_2 : klimit ≤ 900) (iv_ko_3 : kto ≤ ksize) (iv_ko_4 : kfrom ≤ 940) (hTM : TM bt ktapeF) (hMT : MT bt ksize klimit hp kkind ksign kfrom kto knumber kword) (j8 : k7 ≤ 10) (j9 : 8 ≤ k7) (jW : ∀ j, 8 ≤ j → j < k7 → ¬ tW bt ksize klimit hp = j) (hm13 : 10 - k7 < n11 + 1) (c14 : k7 ≤ 9) (t39 : tW bt ksize klimit hp = k7) (c42 : k7 ≤ 9) (p51 : ktoG_45 ≤ ksize) (p52 : kfromG_46 ≤ 940) (p53 : MT bt ksize klimit (tT bt ksize klimit hp) kkindG_47 ksignG_49 kfromG_46 ktoG_45 knumberG_48 kwordG_50) : ((nI 1) = nI 1 ∧ (isO (pOne bt ksize klimit 8 9 hp) = true ∧ MT bt ksize klimit (tT bt ksize klimit hp) kkindG_47 ksignG_49 kfromG_46 ktoG_45 knumberG_48 kwordG_50 ∧ 0 ≤ (nI (k7 - 8)).toInt ∧ (nI (k7 - 8)).toInt ≤ 1 ∧ kfault = kfault ∧ kplace = kplace)) ∨ ((nI 1) = nI 0 ∧ (isO (pOne bt ksize klimit 8 9 hp) = false ∧ kfault = nI (erA (pOne bt ksize klimit 8 9 hp)) ∧ kplace = nI (erB (pOne bt ksize klimit 8 9 hp)))) := by
  have b9 : 0 ≤ (nI (k7 - 8)).toInt ∧ (nI (k7 - 8)).toInt ≤ 1 := by
    have b_kkind := ia_b kkind
    have b_knumber := ia_b knumber
    have b_ksign := ia_b ksign
    have b_kfault := ia_b kfault
    have b_kplace := ia_b kplace
    have b_kkindG_47 := ia_b kkindG_47
    have b_knumberG_48 := ia_b knumberG_48
    have b_ksignG_49 := ia_b ksignG_49
    have b_kword := Int64.toInt_lt kword
    have b_kwordG_50 := Int64.toInt_lt kwordG_50
    try have k_0 := ia_n 1 (by first | decide | omega)
    try have k_1 := ia_n (k7 - 8) (by first | decide | omega)
    try have k_2 := ia_n 0 (by first | decide | omega)
    try have k_3 := ia_n (erA (pOne bt ksize klimit 8 9 hp)) (by first | decide | omega)
    try have k_4 := ia_n (erB (pOne bt ksize klimit 8 9 hp)) (by first | decide | omega)
    try simp only [ia_lt, ia_le, ia_eq, ia_m1, ia_0, ia_1, ne_eq, true_and, and_true, false_and, and_false, or_false, false_or, or_true, true_or, not_true_eq_false, not_false_eq_true] at *
    all_goals omega
  rw [one_o (lo := 8) (hi := 9) (by omega) (by omega)]
  exact Or.inl ⟨rfl, rfl, ‹_›, b9.1, b9.2, (by first | rfl | assumption | (subst_vars; rfl) | (subst_vars; assumption)), (by first | rfl | assumption | (subst_vars; rfl) | (subst_vars; assumption))⟩
set_option maxRecDepth 20000 in
theorem lf_g_oneOf8_7 (bt : Nat → Nat) (ksize : Nat) (klimit : Nat) (kto : Nat) (kfrom : Nat) (kkind : Int32) (knumber : Int32) (ksign : Int32) (kfault : Int32) (kplace : Int32) (kword : Int64) (ktold : Int32) (ktapeF : Nat → Int32) (hp : Nat) (k7 : Nat) (n11 : Nat) (kfaultG_57 : Int32) (kplaceG_58 : Int32) (iv_ko_1 : ksize ≤ 940) (iv_ko_2 : klimit ≤ 900) (iv_ko_3 : kto ≤ ksize) (iv_ko_4 : kfrom ≤ 940) (hTM : TM bt ktapeF) (hMT : MT bt ksize klimit hp kkind ksign kfrom kto knumber kword) (j8 : k7 ≤ 10) (j9 : 8 ≤ k7) (jW : ∀ j, 8 ≤ j → j < k7 → ¬ tW bt ksize klimit hp = j) (hm13 : 10 - k7 < n11 + 1) (c14 : k7 ≤ 9) (t39 : tW bt ksize klimit hp = k7) (c42 : 9 < k7) (p60 : kfaultG_57 = (if tK bt ksize klimit hp = 1 then nI 1 else (nI 1))) (p61 : kplaceG_58 = nI (tF bt ksize klimit hp)) : ((nI 0) = nI 1 ∧ (isO (pOne bt ksize klimit 8 9 hp) = true ∧ MT bt ksize klimit (tT bt ksize klimit hp) kkind ksign kfrom kto knumber kword ∧ 0 ≤ ktold.toInt ∧ ktold.toInt ≤ 1 ∧ kfaultG_57 = kfault ∧ kplaceG_58 = kplace)) ∨ ((nI 0) = nI 0 ∧ (isO (pOne bt ksize klimit 8 9 hp) = false ∧ kfaultG_57 = nI (erA (pOne bt ksize klimit 8 9 hp)) ∧ kplaceG_58 = nI (erB (pOne bt ksize klimit 8 9 hp)))) := by
  rw [one_e (lo := 8) (hi := 9) (fun z => jW _ z.1 (by omega) rfl)]
  subst_vars
  exact Or.inr ⟨rfl, rfl, bad1, rfl⟩
set_option maxRecDepth 20000 in
theorem lf_g_oneOf8_8 (bt : Nat → Nat) (ksize : Nat) (klimit : Nat) (kto : Nat) (kfrom : Nat) (kkind : Int32) (knumber : Int32) (ksign : Int32) (kword : Int64) (ktapeF : Nat → Int32) (hp : Nat) (k7 : Nat) (n11 : Nat) (iv_ko_1 : ksize ≤ 940) (iv_ko_2 : klimit ≤ 900) (iv_ko_3 : kto ≤ ksize) (iv_ko_4 : kfrom ≤ 940) (hTM : TM bt ktapeF) (hMT : MT bt ksize klimit hp kkind ksign kfrom kto knumber kword) (j8 : k7 ≤ 10) (j9 : 8 ≤ k7) (jW : ∀ j, 8 ≤ j → j < k7 → ¬ tW bt ksize klimit hp = j) (hm13 : 10 - k7 < n11 + 1) (c14 : k7 ≤ 9) (t40 : ¬ tW bt ksize klimit hp = k7) : (k7 + 1) ≤ 10 := by
  have b_kkind := ia_b kkind
  have b_knumber := ia_b knumber
  have b_ksign := ia_b ksign
  have b_kword := Int64.toInt_lt kword
  try simp only [ia_lt, ia_le, ia_eq, ia_m1, ia_0, ia_1, ne_eq, true_and, and_true, false_and, and_false, or_false, false_or, or_true, true_or, not_true_eq_false, not_false_eq_true] at *
  all_goals omega
set_option maxRecDepth 20000 in
theorem lf_g_oneOf8_9 (bt : Nat → Nat) (ksize : Nat) (klimit : Nat) (kto : Nat) (kfrom : Nat) (kkind : Int32) (knumber : Int32) (ksign : Int32) (kword : Int64) (ktapeF : Nat → Int32) (hp : Nat) (k7 : Nat) (n11 : Nat) (iv_ko_1 : ksize ≤ 940) (iv_ko_2 : klimit ≤ 900) (iv_ko_3 : kto ≤ ksize) (iv_ko_4 : kfrom ≤ 940) (hTM : TM bt ktapeF) (hMT : MT bt ksize klimit hp kkind ksign kfrom kto knumber kword) (j8 : k7 ≤ 10) (j9 : 8 ≤ k7) (jW : ∀ j, 8 ≤ j → j < k7 → ¬ tW bt ksize klimit hp = j) (hm13 : 10 - k7 < n11 + 1) (c14 : k7 ≤ 9) (t40 : ¬ tW bt ksize klimit hp = k7) : 8 ≤ (k7 + 1) := by
  have b_kkind := ia_b kkind
  have b_knumber := ia_b knumber
  have b_ksign := ia_b ksign
  have b_kword := Int64.toInt_lt kword
  try simp only [ia_lt, ia_le, ia_eq, ia_m1, ia_0, ia_1, ne_eq, true_and, and_true, false_and, and_false, or_false, false_or, or_true, true_or, not_true_eq_false, not_false_eq_true] at *
  all_goals omega
set_option maxRecDepth 20000 in
theorem lf_g_oneOf8_10 (bt : Nat → Nat) (ksize : Nat) (klimit : Nat) (kto : Nat) (kfrom : Nat) (kkind : Int32) (knumber : Int32) (ksign : Int32) (kword : Int64) (ktapeF : Nat → Int32) (hp : Nat) (k7 : Nat) (n11 : Nat) (iv_ko_1 : ksize ≤ 940) (iv_ko_2 : klimit ≤ 900) (iv_ko_3 : kto ≤ ksize) (iv_ko_4 : kfrom ≤ 940) (hTM : TM bt ktapeF) (hMT : MT bt ksize klimit hp kkind ksign kfrom kto knumber kword) (j8 : k7 ≤ 10) (j9 : 8 ≤ k7) (jW : ∀ j, 8 ≤ j → j < k7 → ¬ tW bt ksize klimit hp = j) (hm13 : 10 - k7 < n11 + 1) (c14 : k7 ≤ 9) (t40 : ¬ tW bt ksize klimit hp = k7) : ∀ j, 8 ≤ j → j < (k7 + 1) → ¬ tW bt ksize klimit hp = j := by
  intro j h1 h2
  by_cases q : j = k7
  · rw [q]; assumption
  · exact jW j h1 (by omega)
set_option maxRecDepth 20000 in
theorem lf_g_oneOf8_11 (bt : Nat → Nat) (ksize : Nat) (klimit : Nat) (kto : Nat) (kfrom : Nat) (kkind : Int32) (knumber : Int32) (ksign : Int32) (kword : Int64) (ktapeF : Nat → Int32) (hp : Nat) (k7 : Nat) (n11 : Nat) (iv_ko_1 : ksize ≤ 940) (iv_ko_2 : klimit ≤ 900) (iv_ko_3 : kto ≤ ksize) (iv_ko_4 : kfrom ≤ 940) (hTM : TM bt ktapeF) (hMT : MT bt ksize klimit hp kkind ksign kfrom kto knumber kword) (j8 : k7 ≤ 10) (j9 : 8 ≤ k7) (jW : ∀ j, 8 ≤ j → j < k7 → ¬ tW bt ksize klimit hp = j) (hm13 : 10 - k7 < n11 + 1) (c14 : k7 ≤ 9) (t40 : ¬ tW bt ksize klimit hp = k7) : 10 - (k7 + 1) < n11 := by
  have b_kkind := ia_b kkind
  have b_knumber := ia_b knumber
  have b_ksign := ia_b ksign
  have b_kword := Int64.toInt_lt kword
  try simp only [ia_lt, ia_le, ia_eq, ia_m1, ia_0, ia_1, ne_eq, true_and, and_true, false_and, and_false, or_false, false_or, or_true, true_or, not_true_eq_false, not_false_eq_true] at *
  all_goals omega
set_option maxRecDepth 20000 in
theorem lf_g_oneOf8_12   : 8 ≤ 10 := by
  try simp only [ia_lt, ia_le, ia_eq, ia_m1, ia_0, ia_1, ne_eq, true_and, and_true, false_and, and_false, or_false, false_or, or_true, true_or, not_true_eq_false, not_false_eq_true] at *
  all_goals omega
set_option maxRecDepth 20000 in
theorem lf_g_oneOf8_13   : 8 ≤ 8 := by
  try simp only [ia_lt, ia_le, ia_eq, ia_m1, ia_0, ia_1, ne_eq, true_and, and_true, false_and, and_false, or_false, false_or, or_true, true_or, not_true_eq_false, not_false_eq_true] at *
  all_goals omega
set_option maxRecDepth 20000 in
theorem lf_g_oneOf8_14 (bt : Nat → Nat) (ksize : Nat) (klimit : Nat) (kto : Nat) (kfrom : Nat) (kkind : Int32) (knumber : Int32) (ksign : Int32) (kword : Int64) (ktapeF : Nat → Int32) (hp : Nat) (iv_ko_1 : ksize ≤ 940) (iv_ko_2 : klimit ≤ 900) (iv_ko_3 : kto ≤ ksize) (iv_ko_4 : kfrom ≤ 940) (hTM : TM bt ktapeF) (hMT : MT bt ksize klimit hp kkind ksign kfrom kto knumber kword) : ∀ j, 8 ≤ j → j < 8 → ¬ tW bt ksize klimit hp = j := by
  intro j h1 h2; omega
set_option maxHeartbeats 4000000 in
set_option maxRecDepth 100000 in
theorem c_g_oneOf8 (l : Launch) (dC : Nat → ClassId) (dI : Nat → Nat → Nat) (ky : Nat → ClassId) (sz : Nat) (bt : Nat → Nat) (o : Nat) (kthrown : Int32) (ktape : Nat) (ktaped : Nat) (ksize : Nat) (klimit : Nat) (kto : Nat) (kfrom : Nat) (kkind : Int32) (knumber : Int32) (ksign : Int32) (kfault : Int32) (kplace : Int32) (kword : Int64) (ktold : Int32) (know : Nat) (kread : Nat) (kkept : Nat) (ksnaps : Nat) (kaside : Nat) (kname : Nat) (kreadName : Nat) (kkeptName : Nat) (kisKept : Nat) (konces : Nat) (ksnapMany : Nat) (khasCells : Int32) (kpoured : Nat) (kfar : Nat) (ksides : Nat) (ksideMany : Nat) (kwayDays : Int32) (khasWay : Int32) (klines : Nat) (kmet : Nat) (kmetMany : Nat) (ksunk : Nat) (ktrying : Nat) (ksunkMany : Nat) (ksending : Int32) (kfleets : Int32) (ktext : Nat) (ktexts : Nat) (kseed : Int32) (kline : Nat) (kwritten : Nat) (klineMany : Nat) (khasWritten : Int32) (knode : Nat) (knodes : Nat) (konesMany : Nat) (kwithin : Nat) (ktop : Nat) (ktapeF : Nat → Int32) (hp : Nat) (iv_ko_0 : ktaped ≤ 940) (iv_ko_1 : ksize ≤ 940) (iv_ko_2 : klimit ≤ 900) (iv_ko_3 : kto ≤ ksize) (iv_ko_4 : kfrom ≤ 940) (iv_ko_5 : ksnapMany ≤ 8) (iv_ko_6 : ksideMany ≤ 36) (iv_ko_7 : kmetMany ≤ 3) (iv_ko_8 : ksunkMany ≤ 36) (iv_ko_9 : ktexts ≤ 64) (iv_ko_10 : klineMany ≤ 40) (iv_ko_11 : knodes ≤ 60) (iv_ko_12 : konesMany ≤ 20) (iv_ko_13 : kwithin ≤ 8) (iv_ko_14 : ktop ≤ 59) (hTM : TM bt ktapeF) (hMT : MT bt ksize klimit hp kkind ksign kfrom kto knumber kword) : Met l yX12_readOneOf wsX12_readOneOf ({ frames := 3, cells := 0, slots := 0, locals := 68 }) (PcU dC dI ky [.ref o, .int (nI 8), .int (nI 9)] [(o, .inr (12, [.int kthrown, .ref ktape, .int (nI ktaped), .int (nI ksize), .int (nI klimit), .int (nI kto), .int (nI kfrom), .int kkind, .int knumber, .int ksign, .int kfault, .int kplace, .long kword, .int ktold, .ref know, .ref kread, .ref kkept, .ref ksnaps, .ref kaside, .ref kname, .ref kreadName, .ref kkeptName, .ref kisKept, .ref konces, .int (nI ksnapMany), .int khasCells, .ref kpoured, .ref kfar, .ref ksides, .int (nI ksideMany), .int kwayDays, .int khasWay, .ref klines, .ref kmet, .int (nI kmetMany), .ref ksunk, .ref ktrying, .int (nI ksunkMany), .int ksending, .int kfleets, .ref ktext, .int (nI ktexts), .int kseed, .ref kline, .ref kwritten, .int (nI klineMany), .int khasWritten, .ref knode, .int (nI knodes), .int (nI konesMany), .int (nI kwithin), .int (nI ktop)])), (ktape, .inl (ky 0, 940, .inl ktapeF))] sz) (va_Qi (fun (r : Int32) (u : Nat × Nat × Int32 × Int32 × Int32 × Int32 × Int32 × Int64 × Int32) => match u with | (ktoG, kfromG, kkindG, knumberG, ksignG, kfaultG, kplaceG, kwordG, ktoldG) => ((r = nI 1 ∧ (isO (pOne bt ksize klimit 8 9 hp) = true ∧ MT bt ksize klimit (tT bt ksize klimit hp) kkindG ksignG kfromG ktoG knumberG kwordG ∧ 0 ≤ ktoldG.toInt ∧ ktoldG.toInt ≤ 1 ∧ kfaultG = kfault ∧ kplaceG = kplace)) ∨ (r = nI 0 ∧ (isO (pOne bt ksize klimit 8 9 hp) = false ∧ kfaultG = nI (erA (pOne bt ksize klimit 8 9 hp)) ∧ kplaceG = nI (erB (pOne bt ksize klimit 8 9 hp))))) ∧ (ktoG ≤ ksize) ∧ (kfromG ≤ 940)) (BU dC dI ky (fun (u : Nat × Nat × Int32 × Int32 × Int32 × Int32 × Int32 × Int64 × Int32) => match u with | (ktoG, kfromG, kkindG, knumberG, ksignG, kfaultG, kplaceG, kwordG, ktoldG) => [(o, .inr (12, [.int kthrown, .ref ktape, .int (nI ktaped), .int (nI ksize), .int (nI klimit), .int (nI ktoG), .int (nI kfromG), .int kkindG, .int knumberG, .int ksignG, .int kfaultG, .int kplaceG, .long kwordG, .int ktoldG, .ref know, .ref kread, .ref kkept, .ref ksnaps, .ref kaside, .ref kname, .ref kreadName, .ref kkeptName, .ref kisKept, .ref konces, .int (nI ksnapMany), .int khasCells, .ref kpoured, .ref kfar, .ref ksides, .int (nI ksideMany), .int kwayDays, .int khasWay, .ref klines, .ref kmet, .int (nI kmetMany), .ref ksunk, .ref ktrying, .int (nI ksunkMany), .int ksending, .int kfleets, .ref ktext, .int (nI ktexts), .int kseed, .ref kline, .ref kwritten, .int (nI klineMany), .int khasWritten, .ref knode, .int (nI knodes), .int (nI konesMany), .int (nI kwithin), .int (nI ktop)])), (ktape, .inl (ky 0, 940, .inl ktapeF))]) (va_A [(o, .inr (12, [.int kthrown, .ref ktape, .int (nI ktaped), .int (nI ksize), .int (nI klimit), .int (nI kto), .int (nI kfrom), .int kkind, .int knumber, .int ksign, .int kfault, .int kplace, .long kword, .int ktold, .ref know, .ref kread, .ref kkept, .ref ksnaps, .ref kaside, .ref kname, .ref kreadName, .ref kkeptName, .ref kisKept, .ref konces, .int (nI ksnapMany), .int khasCells, .ref kpoured, .ref kfar, .ref ksides, .int (nI ksideMany), .int kwayDays, .int khasWay, .ref klines, .ref kmet, .int (nI kmetMany), .ref ksunk, .ref ktrying, .int (nI ksunkMany), .int ksending, .int kfleets, .ref ktext, .int (nI ktexts), .int kseed, .ref kline, .ref kwritten, .int (nI klineMany), .int khasWritten, .ref knode, .int (nI knodes), .int (nI konesMany), .int (nI kwithin), .int (nI ktop)])), (ktape, .inl (ky 0, 940, .inl ktapeF))] sz)) (va_A [(o, .inr (12, [.int kthrown, .ref ktape, .int (nI ktaped), .int (nI ksize), .int (nI klimit), .int (nI kto), .int (nI kfrom), .int kkind, .int knumber, .int ksign, .int kfault, .int kplace, .long kword, .int ktold, .ref know, .ref kread, .ref kkept, .ref ksnaps, .ref kaside, .ref kname, .ref kreadName, .ref kkeptName, .ref kisKept, .ref konces, .int (nI ksnapMany), .int khasCells, .ref kpoured, .ref kfar, .ref ksides, .int (nI ksideMany), .int kwayDays, .int khasWay, .ref klines, .ref kmet, .int (nI kmetMany), .ref ksunk, .ref ktrying, .int (nI ksunkMany), .int ksending, .int kfleets, .ref ktext, .int (nI ktexts), .int kseed, .ref kline, .ref kwritten, .int (nI klineMany), .int khasWritten, .ref knode, .int (nI knodes), .int (nI konesMany), .int (nI kwithin), .int (nI ktop)])), (ktape, .inl (ky 0, 940, .inl ktapeF))] sz)) 0 0 (va_A [(o, .inr (12, [.int kthrown, .ref ktape, .int (nI ktaped), .int (nI ksize), .int (nI klimit), .int (nI kto), .int (nI kfrom), .int kkind, .int knumber, .int ksign, .int kfault, .int kplace, .long kword, .int ktold, .ref know, .ref kread, .ref kkept, .ref ksnaps, .ref kaside, .ref kname, .ref kreadName, .ref kkeptName, .ref kisKept, .ref konces, .int (nI ksnapMany), .int khasCells, .ref kpoured, .ref kfar, .ref ksides, .int (nI ksideMany), .int kwayDays, .int khasWay, .ref klines, .ref kmet, .int (nI kmetMany), .ref ksunk, .ref ktrying, .int (nI ksunkMany), .int ksending, .int kfleets, .ref ktext, .int (nI ktexts), .int kseed, .ref kline, .ref kwritten, .int (nI klineMany), .int khasWritten, .ref knode, .int (nI knodes), .int (nI konesMany), .int (nI kwithin), .int (nI ktop)])), (ktape, .inl (ky 0, 940, .inl ktapeF))] sz) := by
  refine Met.ofW (cc := cX12_readOneOf) (maxL := 4) (ret := (some .boolean)) (by decide) rfl ?_
  intro p e s m args below meth c s₁ B hml hv
  obtain ⟨rfl, hsz, hP, hK, hD0⟩ := hv
  have hx := B.exec
  have hb := B.bytes
  have hr := B.returns
  have hts := atoms_spec (ws := wsX12_readOneOf) B.pre
  have hown : s.vm.findClass RX12 = some m.cls := findClass_of_methodNamed B.named
  have hlocks := B.notSynchronized
  have hin12 : ∀ w ∈ u_ws RX12 TX12 52, w ∈ wsX12_readOneOf := by decide +kernel
  subst hsz
  have hD := hD0.self (sz := s.heap.size)
  generalize hAe : va_A [(o, .inr (12, [.int kthrown, .ref ktape, .int (nI ktaped), .int (nI ksize), .int (nI klimit), .int (nI kto), .int (nI kfrom), .int kkind, .int knumber, .int ksign, .int kfault, .int kplace, .long kword, .int ktold, .ref know, .ref kread, .ref kkept, .ref ksnaps, .ref kaside, .ref kname, .ref kreadName, .ref kkeptName, .ref kisKept, .ref konces, .int (nI ksnapMany), .int khasCells, .ref kpoured, .ref kfar, .ref ksides, .int (nI ksideMany), .int kwayDays, .int khasWay, .ref klines, .ref kmet, .int (nI kmetMany), .ref ksunk, .ref ktrying, .int (nI ksunkMany), .int ksending, .int kfleets, .ref ktext, .int (nI ktexts), .int kseed, .ref kline, .ref kwritten, .int (nI klineMany), .int khasWritten, .ref knode, .int (nI knodes), .int (nI konesMany), .int (nI kwithin), .int (nI ktop)])), (ktape, .inl (ky 0, 940, .inl ktapeF))] s.heap.size = A at hD ⊢
  have hA : ∀ q : Nat, s.heap.size ≤ q → A q := fun q h => by rw [← hAe]; exact Or.inr h
  have hS : va_S A s.heap s.heap [] := va_S.rf
  have hl := lv_entry ([.ref o, .int (nI 8), .int (nI 9)]) (n := 4) (Nat.le_of_ble_eq_true rfl)
  rw [lg_entry_eq]
  generalize (lg_sl ([.ref o, .int (nI 8), .int (nI 9)]) ++ List.replicate (4 - (lg_sl ([.ref o, .int (nI 8), .int (nI 9)])).length) Slot.unset).toArray = ls at hl ⊢
  have hl : lv_has ls 4 [(0, .ref o), (1, .int (nI 8)), (2, .int (nI 9))] := hl
  refine q_name (fun Q hQ => ?_)
  generalize ([.ref o, .int (nI 8), .int (nI 9)] : List Value).toArray = args at hts hQ ⊢
  refine lv_iload_n hx hb dX12_readOneOf_0 rfl (lv_at hl 1 rfl) ?_
  refine lv_istore_n (lv' := [(3, .int (nI 8)), (0, .ref o), (1, .int (nI 8)), (2, .int (nI 9))]) hx hb dX12_readOneOf_1 rfl hl (by decide) rfl (fun ls hl => ?_)
  have hL10 : ∀ (n11 : Nat) (k7 : Nat), (k7 ≤ 10) → (8 ≤ k7) → (∀ j, 8 ≤ j → j < k7 → ¬ tW bt ksize klimit hp = j) → 10 - k7 < n11 → ∀ (H : Heap) (locs : List Loc) (ls : Array Slot), va_P (dC, dI) vwCl [(o, .inr (12, [.int kthrown, .ref ktape, .int (nI ktaped), .int (nI ksize), .int (nI klimit), .int (nI kto), .int (nI kfrom), .int kkind, .int knumber, .int ksign, .int kfault, .int kplace, .long kword, .int ktold, .ref know, .ref kread, .ref kkept, .ref ksnaps, .ref kaside, .ref kname, .ref kreadName, .ref kkeptName, .ref kisKept, .ref konces, .int (nI ksnapMany), .int khasCells, .ref kpoured, .ref kfar, .ref ksides, .int (nI ksideMany), .int kwayDays, .int khasWay, .ref klines, .ref kmet, .int (nI kmetMany), .ref ksunk, .ref ktrying, .int (nI ksunkMany), .int ksending, .int kfleets, .ref ktext, .int (nI ktexts), .int kseed, .ref kline, .ref kwritten, .int (nI klineMany), .int khasWritten, .ref knode, .int (nI knodes), .int (nI konesMany), .int (nI kwithin), .int (nI ktop)])), (ktape, .inl (ky 0, 940, .inl ktapeF))] H → va_D A [(o, .inr (12, [.int kthrown, .ref ktape, .int (nI ktaped), .int (nI ksize), .int (nI klimit), .int (nI kto), .int (nI kfrom), .int kkind, .int knumber, .int ksign, .int kfault, .int kplace, .long kword, .int ktold, .ref know, .ref kread, .ref kkept, .ref ksnaps, .ref kaside, .ref kname, .ref kreadName, .ref kkeptName, .ref kisKept, .ref konces, .int (nI ksnapMany), .int khasCells, .ref kpoured, .ref kfar, .ref ksides, .int (nI ksideMany), .int kwayDays, .int khasWay, .ref klines, .ref kmet, .int (nI kmetMany), .ref ksunk, .ref ktrying, .int (nI ksunkMany), .int ksending, .int kfleets, .ref ktext, .int (nI ktexts), .int kseed, .ref kline, .ref kwritten, .int (nI klineMany), .int khasWritten, .ref knode, .int (nI knodes), .int (nI konesMany), .int (nI kwithin), .int (nI ktop)])), (ktape, .inl (ky 0, 940, .inl ktapeF))] → va_S A s.heap H locs → lv_has ls 4 [(3, .int (nI k7)), (0, .ref o), (1, .int (nI 8)), (2, .int (nI 9))] → W p l e (headSpec wsX12_readOneOf ({ frames := 3, cells := 0, slots := 0, locals := 68 })).room s m args below meth c H locs 0 0 Q (F0 m 2 ls []) := by
    intro n11
    induction n11 with
    | zero => intro k7 _ _ _ h9; exact absurd h9 (Nat.not_lt_zero _)
    | succ n11 ih12 =>
      intro k7 j8 j9 jW hm13 H locs ls hP hD hS hl
      refine lv_iload_n hx hb dX12_readOneOf_2 rfl (lv_at hl 0 rfl) ?_
      refine lv_iload_n hx hb dX12_readOneOf_3 rfl (lv_at hl 3 rfl) ?_
      refine n_icmp_gt (x := k7) (y := 9) (tgt := 21) hx hb (by omega) (by omega) dX12_readOneOf_4 (by decide) (fun c14 => ?_) (fun c14 => ?_)
      · refine lv_iload_n hx hb dX12_readOneOf_21 rfl (lv_at hl 0 rfl) ?_
        refine lv_iload_n hx hb dX12_readOneOf_22 rfl (lv_at hl 3 rfl) ?_
        refine n_icmp_le (x := k7) (y := 9) (tgt := 32) hx hb (by omega) (by omega) dX12_readOneOf_23 (by decide) (fun c15 => ?_) (fun c15 => ?_)
        · refine lv_aload_n hx hb dX12_readOneOf_32 rfl (lv_at hl 1 rfl) ?_
          refine lv_iload_n hx hb dX12_readOneOf_33 rfl (lv_at hl 0 rfl) ?_
          refine lv_iload_n hx hb dX12_readOneOf_34 rfl (lv_at hl 2 rfl) ?_
          refine lv_isub hx hb dX12_readOneOf_35 ?_
          refine r_ti (nI (k7 - 8)) (pk_sub (lf_g_oneOf8_1 bt ksize klimit kto kfrom kkind knumber ksign kword ktapeF hp k7 n11 iv_ko_1 iv_ko_2 iv_ko_3 iv_ko_4 hTM hMT j8 j9 jW hm13 c14 c15)) ?_
          refine va_put (D := (dC, dI)) (ci := 12) (v := .int (nI (k7 - 8))) (ty := .int) (C := RX12) (T := TX12) (N := 52) hx hb hts hin12 tyX12 tyX12_ok nmX12 hown hK hP hD hS 0 rfl rfl 13 (by decide) (hts (.fieldLink RX12 79 "PorridgeSeaModel" "told" "I") (List.mem_of_getElem? (i := 1) rfl)) (fun _ h9 => h9) rfl (by decide +kernel) rfl rfl (Nat.le_of_ble_eq_true rfl) dX12_readOneOf_36 (fun H locs hP hD hS => ?_)
          have hP : va_P (dC, dI) vwCl [(o, .inr (12, [.int kthrown, .ref ktape, .int (nI ktaped), .int (nI ksize), .int (nI klimit), .int (nI kto), .int (nI kfrom), .int kkind, .int knumber, .int ksign, .int kfault, .int kplace, .long kword, .int (nI (k7 - 8)), .ref know, .ref kread, .ref kkept, .ref ksnaps, .ref kaside, .ref kname, .ref kreadName, .ref kkeptName, .ref kisKept, .ref konces, .int (nI ksnapMany), .int khasCells, .ref kpoured, .ref kfar, .ref ksides, .int (nI ksideMany), .int kwayDays, .int khasWay, .ref klines, .ref kmet, .int (nI kmetMany), .ref ksunk, .ref ktrying, .int (nI ksunkMany), .int ksending, .int kfleets, .ref ktext, .int (nI ktexts), .int kseed, .ref kline, .ref kwritten, .int (nI klineMany), .int khasWritten, .ref knode, .int (nI knodes), .int (nI konesMany), .int (nI kwithin), .int (nI ktop)])), (ktape, .inl (ky 0, 940, .inl ktapeF))] H := hP
          have hD : va_D A [(o, .inr (12, [.int kthrown, .ref ktape, .int (nI ktaped), .int (nI ksize), .int (nI klimit), .int (nI kto), .int (nI kfrom), .int kkind, .int knumber, .int ksign, .int kfault, .int kplace, .long kword, .int (nI (k7 - 8)), .ref know, .ref kread, .ref kkept, .ref ksnaps, .ref kaside, .ref kname, .ref kreadName, .ref kkeptName, .ref kisKept, .ref konces, .int (nI ksnapMany), .int khasCells, .ref kpoured, .ref kfar, .ref ksides, .int (nI ksideMany), .int kwayDays, .int khasWay, .ref klines, .ref kmet, .int (nI kmetMany), .ref ksunk, .ref ktrying, .int (nI ksunkMany), .int ksending, .int kfleets, .ref ktext, .int (nI ktexts), .int kseed, .ref kline, .ref kwritten, .int (nI klineMany), .int khasWritten, .ref knode, .int (nI knodes), .int (nI konesMany), .int (nI kwithin), .int (nI ktop)])), (ktape, .inl (ky 0, 940, .inl ktapeF))] := hD
          refine lv_aload_n hx hb dX12_readOneOf_39 rfl (lv_at hl 1 rfl) ?_
          refine r_call_v (wr := []) (va_runV (As := []) (rest := []) ⟨hx, hb, hml, hown, hts⟩ (c_g_go l dC dI ky H.size bt o kthrown ktape ktaped ksize klimit kto kfrom kkind knumber ksign kfault kplace kword (nI (k7 - 8)) know kread kkept ksnaps kaside kname kreadName kkeptName kisKept konces ksnapMany khasCells kpoured kfar ksides ksideMany kwayDays khasWay klines kmet kmetMany ksunk ktrying ksunkMany ksending kfleets ktext ktexts kseed kline kwritten klineMany khasWritten knode knodes konesMany kwithin ktop ktapeF (tT bt ksize klimit hp) iv_ko_0 iv_ko_1 iv_ko_2 iv_ko_3 iv_ko_4 iv_ko_5 iv_ko_6 iv_ko_7 iv_ko_8 iv_ko_9 iv_ko_10 iv_ko_11 iv_ko_12 iv_ko_13 iv_ko_14 hTM hMT.2.2.1) (cwV 0 hts gX12_readOneOf_X12_go rfl rfl rfl (by decide +kernel) ⟨(Nat.le_of_ble_eq_true rfl), (Nat.le_of_ble_eq_true rfl)⟩) (pre_UV hK hP hD [0, 1] (by decide) rfl (ci := 12) (q0 := 0) rfl rfl) rfl rfl hl.1 rfl (lv_room (Nat.le_of_ble_eq_true rfl)) dX12_readOneOf_40 ⟨(Nat.le_of_ble_eq_true rfl), (Nat.le_of_ble_eq_true rfl)⟩) hP hD hS hA [0, 1] [] rfl rfl (by decide) (by decide) (fun  u16 H locs p17 hP hD hS => ?_)
          obtain ⟨ktoG_18, kfromG_19, kkindG_20, knumberG_21, ksignG_22, kwordG_23⟩ := u16
          try dsimp only at p17
          obtain ⟨p24, p25, p26⟩ := p17
          refine W.widen (k := 0) (n := 0) (Nat.le_of_ble_eq_true rfl) (Nat.le_of_ble_eq_true rfl) ?_
          have hP : va_P (dC, dI) vwCl [(o, .inr (12, [.int kthrown, .ref ktape, .int (nI ktaped), .int (nI ksize), .int (nI klimit), .int (nI ktoG_18), .int (nI kfromG_19), .int kkindG_20, .int knumberG_21, .int ksignG_22, .int kfault, .int kplace, .long kwordG_23, .int (nI (k7 - 8)), .ref know, .ref kread, .ref kkept, .ref ksnaps, .ref kaside, .ref kname, .ref kreadName, .ref kkeptName, .ref kisKept, .ref konces, .int (nI ksnapMany), .int khasCells, .ref kpoured, .ref kfar, .ref ksides, .int (nI ksideMany), .int kwayDays, .int khasWay, .ref klines, .ref kmet, .int (nI kmetMany), .ref ksunk, .ref ktrying, .int (nI ksunkMany), .int ksending, .int kfleets, .ref ktext, .int (nI ktexts), .int kseed, .ref kline, .ref kwritten, .int (nI klineMany), .int khasWritten, .ref knode, .int (nI knodes), .int (nI konesMany), .int (nI kwithin), .int (nI ktop)])), (ktape, .inl (ky 0, 940, .inl ktapeF))] H := hP
          have hD : va_D A [(o, .inr (12, [.int kthrown, .ref ktape, .int (nI ktaped), .int (nI ksize), .int (nI klimit), .int (nI ktoG_18), .int (nI kfromG_19), .int kkindG_20, .int knumberG_21, .int ksignG_22, .int kfault, .int kplace, .long kwordG_23, .int (nI (k7 - 8)), .ref know, .ref kread, .ref kkept, .ref ksnaps, .ref kaside, .ref kname, .ref kreadName, .ref kkeptName, .ref kisKept, .ref konces, .int (nI ksnapMany), .int khasCells, .ref kpoured, .ref kfar, .ref ksides, .int (nI ksideMany), .int kwayDays, .int khasWay, .ref klines, .ref kmet, .int (nI kmetMany), .ref ksunk, .ref ktrying, .int (nI ksunkMany), .int ksending, .int kfleets, .ref ktext, .int (nI ktexts), .int kseed, .ref kline, .ref kwritten, .int (nI klineMany), .int khasWritten, .ref knode, .int (nI knodes), .int (nI konesMany), .int (nI kwithin), .int (nI ktop)])), (ktape, .inl (ky 0, 940, .inl ktapeF))] := hD
          refine lv_iconst (v := nI 1) hx hb dX12_readOneOf_43 (by decide) ?_
          rw [hQ]
          exact W.zret (v := nI 1) hx hb hr (by decide) (fun t9 ht9 hW9 => ⟨⟨nI 1, (ktoG_18, kfromG_19, kkindG_20, knumberG_21, ksignG_22, kfault, kplace, kwordG_23, nI (k7 - 8)), rfl, ⟨(lf_g_oneOf8_2 bt ksize klimit kto kfrom kkind knumber ksign kfault kplace kword ktapeF hp k7 n11 ktoG_18 kfromG_19 kkindG_20 knumberG_21 ksignG_22 kwordG_23 iv_ko_1 iv_ko_2 iv_ko_3 iv_ko_4 hTM hMT j8 j9 jW hm13 c14 c15 p24 p25 p26), p24, p25⟩, by rw [ht9]; exact hP, va_K.moved hW9.alike hK, hD⟩, hS.F ht9⟩) hS.2.2 dX12_readOneOf_44
        · refine lv_aload_n hx hb dX12_readOneOf_26 rfl (lv_at hl 1 rfl) ?_
          refine lv_iconst (v := nI 1) hx hb dX12_readOneOf_27 (by decide) ?_
          refine r_call_i (wr := []) (va_runV (As := [.int (nI 1)]) (rest := []) ⟨hx, hb, hml, hown, hts⟩ (c_g_bad l dC dI ky H.size bt o kthrown ktape ktaped ksize klimit kto kfrom kkind knumber ksign kfault kplace kword ktold know kread kkept ksnaps kaside kname kreadName kkeptName kisKept konces ksnapMany khasCells kpoured kfar ksides ksideMany kwayDays khasWay klines kmet kmetMany ksunk ktrying ksunkMany ksending kfleets ktext ktexts kseed kline kwritten klineMany khasWritten knode knodes konesMany kwithin ktop ktapeF hp (nI 1) iv_ko_0 iv_ko_1 iv_ko_2 iv_ko_3 iv_ko_4 iv_ko_5 iv_ko_6 iv_ko_7 iv_ko_8 iv_ko_9 iv_ko_10 iv_ko_11 iv_ko_12 iv_ko_13 iv_ko_14 hTM hMT) (cwV 1 hts gX12_readOneOf_X12_bad rfl rfl rfl (by decide +kernel) ⟨(Nat.le_of_ble_eq_true rfl), (Nat.le_of_ble_eq_true rfl)⟩) (pre_UV hK hP hD [0, 1] (by decide) rfl (ci := 12) (q0 := 0) rfl rfl) rfl rfl hl.1 rfl (lv_room (Nat.le_of_ble_eq_true rfl)) dX12_readOneOf_28 ⟨(Nat.le_of_ble_eq_true rfl), (Nat.le_of_ble_eq_true rfl)⟩) hP hD hS hA [0, 1] [] rfl rfl (by decide) (by decide) (fun r29 u27 H locs p28 hP hD hS => ?_)
          obtain ⟨kfaultG_30, kplaceG_31⟩ := u27
          try dsimp only at p28
          obtain ⟨p32, p33, p34⟩ := p28
          refine W.widen (k := 0) (n := 0) (Nat.le_of_ble_eq_true rfl) (Nat.le_of_ble_eq_true rfl) ?_
          have hP : va_P (dC, dI) vwCl [(o, .inr (12, [.int kthrown, .ref ktape, .int (nI ktaped), .int (nI ksize), .int (nI klimit), .int (nI kto), .int (nI kfrom), .int kkind, .int knumber, .int ksign, .int kfaultG_30, .int kplaceG_31, .long kword, .int ktold, .ref know, .ref kread, .ref kkept, .ref ksnaps, .ref kaside, .ref kname, .ref kreadName, .ref kkeptName, .ref kisKept, .ref konces, .int (nI ksnapMany), .int khasCells, .ref kpoured, .ref kfar, .ref ksides, .int (nI ksideMany), .int kwayDays, .int khasWay, .ref klines, .ref kmet, .int (nI kmetMany), .ref ksunk, .ref ktrying, .int (nI ksunkMany), .int ksending, .int kfleets, .ref ktext, .int (nI ktexts), .int kseed, .ref kline, .ref kwritten, .int (nI klineMany), .int khasWritten, .ref knode, .int (nI knodes), .int (nI konesMany), .int (nI kwithin), .int (nI ktop)])), (ktape, .inl (ky 0, 940, .inl ktapeF))] H := hP
          have hD : va_D A [(o, .inr (12, [.int kthrown, .ref ktape, .int (nI ktaped), .int (nI ksize), .int (nI klimit), .int (nI kto), .int (nI kfrom), .int kkind, .int knumber, .int ksign, .int kfaultG_30, .int kplaceG_31, .long kword, .int ktold, .ref know, .ref kread, .ref kkept, .ref ksnaps, .ref kaside, .ref kname, .ref kreadName, .ref kkeptName, .ref kisKept, .ref konces, .int (nI ksnapMany), .int khasCells, .ref kpoured, .ref kfar, .ref ksides, .int (nI ksideMany), .int kwayDays, .int khasWay, .ref klines, .ref kmet, .int (nI kmetMany), .ref ksunk, .ref ktrying, .int (nI ksunkMany), .int ksending, .int kfleets, .ref ktext, .int (nI ktexts), .int kseed, .ref kline, .ref kwritten, .int (nI klineMany), .int khasWritten, .ref knode, .int (nI knodes), .int (nI konesMany), .int (nI kwithin), .int (nI ktop)])), (ktape, .inl (ky 0, 940, .inl ktapeF))] := hD
          subst p32
          rw [hQ]
          exact W.zret (v := nI 0) hx hb hr (by decide) (fun t9 ht9 hW9 => ⟨⟨nI 0, (kto, kfrom, kkind, knumber, ksign, kfaultG_30, kplaceG_31, kword, ktold), rfl, ⟨(lf_g_oneOf8_3 bt ksize klimit kto kfrom kkind knumber ksign kfault kplace kword ktold ktapeF hp k7 n11 kfaultG_30 kplaceG_31 iv_ko_1 iv_ko_2 iv_ko_3 iv_ko_4 hTM hMT j8 j9 jW hm13 c14 c15 p33 p34), iv_ko_3, iv_ko_4⟩, by rw [ht9]; exact hP, va_K.moved hW9.alike hK, hD⟩, hS.F ht9⟩) hS.2.2 dX12_readOneOf_31
      · refine lv_aload_n hx hb dX12_readOneOf_7 rfl (lv_at hl 1 rfl) ?_
        refine lv_iload_n hx hb dX12_readOneOf_8 rfl (lv_at hl 0 rfl) ?_
        refine r_call_i (wr := []) (va_runV (As := [.int (nI k7)]) (rest := []) ⟨hx, hb, hml, hown, hts⟩ (c_g_isWordN l dC dI ky H.size bt o kthrown ktape ktaped ksize klimit kto kfrom kkind knumber ksign kfault kplace kword ktold know kread kkept ksnaps kaside kname kreadName kkeptName kisKept konces ksnapMany khasCells kpoured kfar ksides ksideMany kwayDays khasWay klines kmet kmetMany ksunk ktrying ksunkMany ksending kfleets ktext ktexts kseed kline kwritten klineMany khasWritten knode knodes konesMany kwithin ktop ktapeF hp k7 iv_ko_0 iv_ko_1 iv_ko_2 iv_ko_3 iv_ko_4 iv_ko_5 iv_ko_6 iv_ko_7 iv_ko_8 iv_ko_9 iv_ko_10 iv_ko_11 iv_ko_12 iv_ko_13 iv_ko_14 hTM hMT (lf_g_oneOf8_4 bt ksize klimit kto kfrom kkind knumber ksign kword ktapeF hp k7 n11 iv_ko_1 iv_ko_2 iv_ko_3 iv_ko_4 hTM hMT j8 j9 jW hm13 c14)) (cwV 1 hts gX12_readOneOf_X12_isWord rfl rfl rfl (by decide +kernel) ⟨(Nat.le_of_ble_eq_true rfl), (Nat.le_of_ble_eq_true rfl)⟩) (pre_UV hK hP hD [0, 1] (by decide) rfl (ci := 12) (q0 := 0) rfl rfl) rfl rfl hl.1 rfl (lv_room (Nat.le_of_ble_eq_true rfl)) dX12_readOneOf_9 ⟨(Nat.le_of_ble_eq_true rfl), (Nat.le_of_ble_eq_true rfl)⟩) hP hD hS hA [0, 1] [] rfl rfl (by decide) (by decide) (fun r37 u35 H locs p36 hP hD hS => ?_)
        try dsimp only at p36
        have p38 := p36
        refine W.widen (k := 0) (n := 0) (Nat.le_of_ble_eq_true rfl) (Nat.le_of_ble_eq_true rfl) ?_
        have hP : va_P (dC, dI) vwCl [(o, .inr (12, [.int kthrown, .ref ktape, .int (nI ktaped), .int (nI ksize), .int (nI klimit), .int (nI kto), .int (nI kfrom), .int kkind, .int knumber, .int ksign, .int kfault, .int kplace, .long kword, .int ktold, .ref know, .ref kread, .ref kkept, .ref ksnaps, .ref kaside, .ref kname, .ref kreadName, .ref kkeptName, .ref kisKept, .ref konces, .int (nI ksnapMany), .int khasCells, .ref kpoured, .ref kfar, .ref ksides, .int (nI ksideMany), .int kwayDays, .int khasWay, .ref klines, .ref kmet, .int (nI kmetMany), .ref ksunk, .ref ktrying, .int (nI ksunkMany), .int ksending, .int kfleets, .ref ktext, .int (nI ktexts), .int kseed, .ref kline, .ref kwritten, .int (nI klineMany), .int khasWritten, .ref knode, .int (nI knodes), .int (nI konesMany), .int (nI kwithin), .int (nI ktop)])), (ktape, .inl (ky 0, 940, .inl ktapeF))] H := hP
        have hD : va_D A [(o, .inr (12, [.int kthrown, .ref ktape, .int (nI ktaped), .int (nI ksize), .int (nI klimit), .int (nI kto), .int (nI kfrom), .int kkind, .int knumber, .int ksign, .int kfault, .int kplace, .long kword, .int ktold, .ref know, .ref kread, .ref kkept, .ref ksnaps, .ref kaside, .ref kname, .ref kreadName, .ref kkeptName, .ref kisKept, .ref konces, .int (nI ksnapMany), .int khasCells, .ref kpoured, .ref kfar, .ref ksides, .int (nI ksideMany), .int kwayDays, .int khasWay, .ref klines, .ref kmet, .int (nI kmetMany), .ref ksunk, .ref ktrying, .int (nI ksunkMany), .int ksending, .int kfleets, .ref ktext, .int (nI ktexts), .int kseed, .ref kline, .ref kwritten, .int (nI klineMany), .int khasWritten, .ref knode, .int (nI knodes), .int (nI konesMany), .int (nI kwithin), .int (nI ktop)])), (ktape, .inl (ky 0, 940, .inl ktapeF))] := hD
        rcases p38 with ⟨rfl, t39⟩ | ⟨rfl, t40⟩
        · refine lv_if_ne (tgt := 21) hx hb dX12_readOneOf_12 (by decide) (fun c41 => ?_) (fun c41 => absurd c41 (by decide))
          refine lv_iload_n hx hb dX12_readOneOf_21 rfl (lv_at hl 0 rfl) ?_
          refine lv_iload_n hx hb dX12_readOneOf_22 rfl (lv_at hl 3 rfl) ?_
          refine n_icmp_le (x := k7) (y := 9) (tgt := 32) hx hb (by omega) (by omega) dX12_readOneOf_23 (by decide) (fun c42 => ?_) (fun c42 => ?_)
          · refine lv_aload_n hx hb dX12_readOneOf_32 rfl (lv_at hl 1 rfl) ?_
            refine lv_iload_n hx hb dX12_readOneOf_33 rfl (lv_at hl 0 rfl) ?_
            refine lv_iload_n hx hb dX12_readOneOf_34 rfl (lv_at hl 2 rfl) ?_
            refine lv_isub hx hb dX12_readOneOf_35 ?_
            refine r_ti (nI (k7 - 8)) (pk_sub (lf_g_oneOf8_5 bt ksize klimit kto kfrom kkind knumber ksign kword ktapeF hp k7 n11 iv_ko_1 iv_ko_2 iv_ko_3 iv_ko_4 hTM hMT j8 j9 jW hm13 c14 t39 c42)) ?_
            refine va_put (D := (dC, dI)) (ci := 12) (v := .int (nI (k7 - 8))) (ty := .int) (C := RX12) (T := TX12) (N := 52) hx hb hts hin12 tyX12 tyX12_ok nmX12 hown hK hP hD hS 0 rfl rfl 13 (by decide) (hts (.fieldLink RX12 79 "PorridgeSeaModel" "told" "I") (List.mem_of_getElem? (i := 1) rfl)) (fun _ h9 => h9) rfl (by decide +kernel) rfl rfl (Nat.le_of_ble_eq_true rfl) dX12_readOneOf_36 (fun H locs hP hD hS => ?_)
            have hP : va_P (dC, dI) vwCl [(o, .inr (12, [.int kthrown, .ref ktape, .int (nI ktaped), .int (nI ksize), .int (nI klimit), .int (nI kto), .int (nI kfrom), .int kkind, .int knumber, .int ksign, .int kfault, .int kplace, .long kword, .int (nI (k7 - 8)), .ref know, .ref kread, .ref kkept, .ref ksnaps, .ref kaside, .ref kname, .ref kreadName, .ref kkeptName, .ref kisKept, .ref konces, .int (nI ksnapMany), .int khasCells, .ref kpoured, .ref kfar, .ref ksides, .int (nI ksideMany), .int kwayDays, .int khasWay, .ref klines, .ref kmet, .int (nI kmetMany), .ref ksunk, .ref ktrying, .int (nI ksunkMany), .int ksending, .int kfleets, .ref ktext, .int (nI ktexts), .int kseed, .ref kline, .ref kwritten, .int (nI klineMany), .int khasWritten, .ref knode, .int (nI knodes), .int (nI konesMany), .int (nI kwithin), .int (nI ktop)])), (ktape, .inl (ky 0, 940, .inl ktapeF))] H := hP
            have hD : va_D A [(o, .inr (12, [.int kthrown, .ref ktape, .int (nI ktaped), .int (nI ksize), .int (nI klimit), .int (nI kto), .int (nI kfrom), .int kkind, .int knumber, .int ksign, .int kfault, .int kplace, .long kword, .int (nI (k7 - 8)), .ref know, .ref kread, .ref kkept, .ref ksnaps, .ref kaside, .ref kname, .ref kreadName, .ref kkeptName, .ref kisKept, .ref konces, .int (nI ksnapMany), .int khasCells, .ref kpoured, .ref kfar, .ref ksides, .int (nI ksideMany), .int kwayDays, .int khasWay, .ref klines, .ref kmet, .int (nI kmetMany), .ref ksunk, .ref ktrying, .int (nI ksunkMany), .int ksending, .int kfleets, .ref ktext, .int (nI ktexts), .int kseed, .ref kline, .ref kwritten, .int (nI klineMany), .int khasWritten, .ref knode, .int (nI knodes), .int (nI konesMany), .int (nI kwithin), .int (nI ktop)])), (ktape, .inl (ky 0, 940, .inl ktapeF))] := hD
            refine lv_aload_n hx hb dX12_readOneOf_39 rfl (lv_at hl 1 rfl) ?_
            refine r_call_v (wr := []) (va_runV (As := []) (rest := []) ⟨hx, hb, hml, hown, hts⟩ (c_g_go l dC dI ky H.size bt o kthrown ktape ktaped ksize klimit kto kfrom kkind knumber ksign kfault kplace kword (nI (k7 - 8)) know kread kkept ksnaps kaside kname kreadName kkeptName kisKept konces ksnapMany khasCells kpoured kfar ksides ksideMany kwayDays khasWay klines kmet kmetMany ksunk ktrying ksunkMany ksending kfleets ktext ktexts kseed kline kwritten klineMany khasWritten knode knodes konesMany kwithin ktop ktapeF (tT bt ksize klimit hp) iv_ko_0 iv_ko_1 iv_ko_2 iv_ko_3 iv_ko_4 iv_ko_5 iv_ko_6 iv_ko_7 iv_ko_8 iv_ko_9 iv_ko_10 iv_ko_11 iv_ko_12 iv_ko_13 iv_ko_14 hTM hMT.2.2.1) (cwV 0 hts gX12_readOneOf_X12_go rfl rfl rfl (by decide +kernel) ⟨(Nat.le_of_ble_eq_true rfl), (Nat.le_of_ble_eq_true rfl)⟩) (pre_UV hK hP hD [0, 1] (by decide) rfl (ci := 12) (q0 := 0) rfl rfl) rfl rfl hl.1 rfl (lv_room (Nat.le_of_ble_eq_true rfl)) dX12_readOneOf_40 ⟨(Nat.le_of_ble_eq_true rfl), (Nat.le_of_ble_eq_true rfl)⟩) hP hD hS hA [0, 1] [] rfl rfl (by decide) (by decide) (fun  u43 H locs p44 hP hD hS => ?_)
            obtain ⟨ktoG_45, kfromG_46, kkindG_47, knumberG_48, ksignG_49, kwordG_50⟩ := u43
            try dsimp only at p44
            obtain ⟨p51, p52, p53⟩ := p44
            refine W.widen (k := 0) (n := 0) (Nat.le_of_ble_eq_true rfl) (Nat.le_of_ble_eq_true rfl) ?_
            have hP : va_P (dC, dI) vwCl [(o, .inr (12, [.int kthrown, .ref ktape, .int (nI ktaped), .int (nI ksize), .int (nI klimit), .int (nI ktoG_45), .int (nI kfromG_46), .int kkindG_47, .int knumberG_48, .int ksignG_49, .int kfault, .int kplace, .long kwordG_50, .int (nI (k7 - 8)), .ref know, .ref kread, .ref kkept, .ref ksnaps, .ref kaside, .ref kname, .ref kreadName, .ref kkeptName, .ref kisKept, .ref konces, .int (nI ksnapMany), .int khasCells, .ref kpoured, .ref kfar, .ref ksides, .int (nI ksideMany), .int kwayDays, .int khasWay, .ref klines, .ref kmet, .int (nI kmetMany), .ref ksunk, .ref ktrying, .int (nI ksunkMany), .int ksending, .int kfleets, .ref ktext, .int (nI ktexts), .int kseed, .ref kline, .ref kwritten, .int (nI klineMany), .int khasWritten, .ref knode, .int (nI knodes), .int (nI konesMany), .int (nI kwithin), .int (nI ktop)])), (ktape, .inl (ky 0, 940, .inl ktapeF))] H := hP
            have hD : va_D A [(o, .inr (12, [.int kthrown, .ref ktape, .int (nI ktaped), .int (nI ksize), .int (nI klimit), .int (nI ktoG_45), .int (nI kfromG_46), .int kkindG_47, .int knumberG_48, .int ksignG_49, .int kfault, .int kplace, .long kwordG_50, .int (nI (k7 - 8)), .ref know, .ref kread, .ref kkept, .ref ksnaps, .ref kaside, .ref kname, .ref kreadName, .ref kkeptName, .ref kisKept, .ref konces, .int (nI ksnapMany), .int khasCells, .ref kpoured, .ref kfar, .ref ksides, .int (nI ksideMany), .int kwayDays, .int khasWay, .ref klines, .ref kmet, .int (nI kmetMany), .ref ksunk, .ref ktrying, .int (nI ksunkMany), .int ksending, .int kfleets, .ref ktext, .int (nI ktexts), .int kseed, .ref kline, .ref kwritten, .int (nI klineMany), .int khasWritten, .ref knode, .int (nI knodes), .int (nI konesMany), .int (nI kwithin), .int (nI ktop)])), (ktape, .inl (ky 0, 940, .inl ktapeF))] := hD
            refine lv_iconst (v := nI 1) hx hb dX12_readOneOf_43 (by decide) ?_
            rw [hQ]
            exact W.zret (v := nI 1) hx hb hr (by decide) (fun t9 ht9 hW9 => ⟨⟨nI 1, (ktoG_45, kfromG_46, kkindG_47, knumberG_48, ksignG_49, kfault, kplace, kwordG_50, nI (k7 - 8)), rfl, ⟨(lf_g_oneOf8_6 bt ksize klimit kto kfrom kkind knumber ksign kfault kplace kword ktapeF hp k7 n11 ktoG_45 kfromG_46 kkindG_47 knumberG_48 ksignG_49 kwordG_50 iv_ko_1 iv_ko_2 iv_ko_3 iv_ko_4 hTM hMT j8 j9 jW hm13 c14 t39 c42 p51 p52 p53), p51, p52⟩, by rw [ht9]; exact hP, va_K.moved hW9.alike hK, hD⟩, hS.F ht9⟩) hS.2.2 dX12_readOneOf_44
          · refine lv_aload_n hx hb dX12_readOneOf_26 rfl (lv_at hl 1 rfl) ?_
            refine lv_iconst (v := nI 1) hx hb dX12_readOneOf_27 (by decide) ?_
            refine r_call_i (wr := []) (va_runV (As := [.int (nI 1)]) (rest := []) ⟨hx, hb, hml, hown, hts⟩ (c_g_bad l dC dI ky H.size bt o kthrown ktape ktaped ksize klimit kto kfrom kkind knumber ksign kfault kplace kword ktold know kread kkept ksnaps kaside kname kreadName kkeptName kisKept konces ksnapMany khasCells kpoured kfar ksides ksideMany kwayDays khasWay klines kmet kmetMany ksunk ktrying ksunkMany ksending kfleets ktext ktexts kseed kline kwritten klineMany khasWritten knode knodes konesMany kwithin ktop ktapeF hp (nI 1) iv_ko_0 iv_ko_1 iv_ko_2 iv_ko_3 iv_ko_4 iv_ko_5 iv_ko_6 iv_ko_7 iv_ko_8 iv_ko_9 iv_ko_10 iv_ko_11 iv_ko_12 iv_ko_13 iv_ko_14 hTM hMT) (cwV 1 hts gX12_readOneOf_X12_bad rfl rfl rfl (by decide +kernel) ⟨(Nat.le_of_ble_eq_true rfl), (Nat.le_of_ble_eq_true rfl)⟩) (pre_UV hK hP hD [0, 1] (by decide) rfl (ci := 12) (q0 := 0) rfl rfl) rfl rfl hl.1 rfl (lv_room (Nat.le_of_ble_eq_true rfl)) dX12_readOneOf_28 ⟨(Nat.le_of_ble_eq_true rfl), (Nat.le_of_ble_eq_true rfl)⟩) hP hD hS hA [0, 1] [] rfl rfl (by decide) (by decide) (fun r56 u54 H locs p55 hP hD hS => ?_)
            obtain ⟨kfaultG_57, kplaceG_58⟩ := u54
            try dsimp only at p55
            obtain ⟨p59, p60, p61⟩ := p55
            refine W.widen (k := 0) (n := 0) (Nat.le_of_ble_eq_true rfl) (Nat.le_of_ble_eq_true rfl) ?_
            have hP : va_P (dC, dI) vwCl [(o, .inr (12, [.int kthrown, .ref ktape, .int (nI ktaped), .int (nI ksize), .int (nI klimit), .int (nI kto), .int (nI kfrom), .int kkind, .int knumber, .int ksign, .int kfaultG_57, .int kplaceG_58, .long kword, .int ktold, .ref know, .ref kread, .ref kkept, .ref ksnaps, .ref kaside, .ref kname, .ref kreadName, .ref kkeptName, .ref kisKept, .ref konces, .int (nI ksnapMany), .int khasCells, .ref kpoured, .ref kfar, .ref ksides, .int (nI ksideMany), .int kwayDays, .int khasWay, .ref klines, .ref kmet, .int (nI kmetMany), .ref ksunk, .ref ktrying, .int (nI ksunkMany), .int ksending, .int kfleets, .ref ktext, .int (nI ktexts), .int kseed, .ref kline, .ref kwritten, .int (nI klineMany), .int khasWritten, .ref knode, .int (nI knodes), .int (nI konesMany), .int (nI kwithin), .int (nI ktop)])), (ktape, .inl (ky 0, 940, .inl ktapeF))] H := hP
            have hD : va_D A [(o, .inr (12, [.int kthrown, .ref ktape, .int (nI ktaped), .int (nI ksize), .int (nI klimit), .int (nI kto), .int (nI kfrom), .int kkind, .int knumber, .int ksign, .int kfaultG_57, .int kplaceG_58, .long kword, .int ktold, .ref know, .ref kread, .ref kkept, .ref ksnaps, .ref kaside, .ref kname, .ref kreadName, .ref kkeptName, .ref kisKept, .ref konces, .int (nI ksnapMany), .int khasCells, .ref kpoured, .ref kfar, .ref ksides, .int (nI ksideMany), .int kwayDays, .int khasWay, .ref klines, .ref kmet, .int (nI kmetMany), .ref ksunk, .ref ktrying, .int (nI ksunkMany), .int ksending, .int kfleets, .ref ktext, .int (nI ktexts), .int kseed, .ref kline, .ref kwritten, .int (nI klineMany), .int khasWritten, .ref knode, .int (nI knodes), .int (nI konesMany), .int (nI kwithin), .int (nI ktop)])), (ktape, .inl (ky 0, 940, .inl ktapeF))] := hD
            subst p59
            rw [hQ]
            exact W.zret (v := nI 0) hx hb hr (by decide) (fun t9 ht9 hW9 => ⟨⟨nI 0, (kto, kfrom, kkind, knumber, ksign, kfaultG_57, kplaceG_58, kword, ktold), rfl, ⟨(lf_g_oneOf8_7 bt ksize klimit kto kfrom kkind knumber ksign kfault kplace kword ktold ktapeF hp k7 n11 kfaultG_57 kplaceG_58 iv_ko_1 iv_ko_2 iv_ko_3 iv_ko_4 hTM hMT j8 j9 jW hm13 c14 t39 c42 p60 p61), iv_ko_3, iv_ko_4⟩, by rw [ht9]; exact hP, va_K.moved hW9.alike hK, hD⟩, hS.F ht9⟩) hS.2.2 dX12_readOneOf_31
        · refine lv_if_ne (tgt := 21) hx hb dX12_readOneOf_12 (by decide) (fun c62 => absurd c62 (by decide)) (fun c62 => ?_)
          refine lv_iinc (v := nI (k7 + 1)) (lv' := [(3, .int (nI (k7 + 1))), (0, .ref o), (1, .int (nI 8)), (2, .int (nI 9))]) hx hb dX12_readOneOf_15 hl (k := 0) rfl (show nI k7 + nI 1 = nI (k7 + 1) from nI_add _ _) (by decide) rfl (fun ls hl => ?_)
          refine lv_goto (tgt := 2) hx hb dX12_readOneOf_18 (by decide) ?_
          exact ih12 (k7 + 1) (lf_g_oneOf8_8 bt ksize klimit kto kfrom kkind knumber ksign kword ktapeF hp k7 n11 iv_ko_1 iv_ko_2 iv_ko_3 iv_ko_4 hTM hMT j8 j9 jW hm13 c14 t40) (lf_g_oneOf8_9 bt ksize klimit kto kfrom kkind knumber ksign kword ktapeF hp k7 n11 iv_ko_1 iv_ko_2 iv_ko_3 iv_ko_4 hTM hMT j8 j9 jW hm13 c14 t40) (lf_g_oneOf8_10 bt ksize klimit kto kfrom kkind knumber ksign kword ktapeF hp k7 n11 iv_ko_1 iv_ko_2 iv_ko_3 iv_ko_4 hTM hMT j8 j9 jW hm13 c14 t40) (lf_g_oneOf8_11 bt ksize klimit kto kfrom kkind knumber ksign kword ktapeF hp k7 n11 iv_ko_1 iv_ko_2 iv_ko_3 iv_ko_4 hTM hMT j8 j9 jW hm13 c14 t40) _ _ _ hP hD hS (lv_sub hl [0, 1, 2, 3] rfl)
  exact hL10 ((10 - 8) + 1) 8 (lf_g_oneOf8_12) (lf_g_oneOf8_13) (lf_g_oneOf8_14 bt ksize klimit kto kfrom kkind knumber ksign kword ktapeF hp iv_ko_1 iv_ko_2 iv_ko_3 iv_ko_4 hTM hMT) (Nat.lt_succ_self _) _ _ _ hP hD hS (lv_sub hl [0, 1, 2, 3] rfl)
set_option maxRecDepth 20000 in
theorem lf_g_oneOf10_1 (bt : Nat → Nat) (ksize : Nat) (klimit : Nat) (kto : Nat) (kfrom : Nat) (kkind : Int32) (knumber : Int32) (ksign : Int32) (kword : Int64) (ktapeF : Nat → Int32) (hp : Nat) (k7 : Nat) (n11 : Nat) (iv_ko_1 : ksize ≤ 940) (iv_ko_2 : klimit ≤ 900) (iv_ko_3 : kto ≤ ksize) (iv_ko_4 : kfrom ≤ 940) (hTM : TM bt ktapeF) (hMT : MT bt ksize klimit hp kkind ksign kfrom kto knumber kword) (j8 : k7 ≤ 12) (j9 : 10 ≤ k7) (jW : ∀ j, 10 ≤ j → j < k7 → ¬ tW bt ksize klimit hp = j) (hm13 : 12 - k7 < n11 + 1) (c14 : 11 < k7) (c15 : k7 ≤ 11) : 10 ≤ k7 := by
  have b_kkind := ia_b kkind
  have b_knumber := ia_b knumber
  have b_ksign := ia_b ksign
  have b_kword := Int64.toInt_lt kword
  try simp only [ia_lt, ia_le, ia_eq, ia_m1, ia_0, ia_1, ne_eq, true_and, and_true, false_and, and_false, or_false, false_or, or_true, true_or, not_true_eq_false, not_false_eq_true] at *
  all_goals omega
set_option maxRecDepth 20000 in
theorem lf_g_oneOf10_2 (bt : Nat → Nat) (ksize : Nat) (klimit : Nat) (kto : Nat) (kfrom : Nat) (kkind : Int32) (knumber : Int32) (ksign : Int32) (kfault : Int32) (kplace : Int32) (kword : Int64) (ktapeF : Nat → Int32) (hp : Nat) (k7 : Nat) (n11 : Nat) (ktoG_18 : Nat) (kfromG_19 : Nat) (kkindG_20 : Int32) (knumberG_21 : Int32) (ksignG_22 : Int32) (kwordG_23 : Int64) (iv_ko_1 : ksize ≤ 940) (iv_ko_2 : klimit ≤ 900) (iv_ko_3 : kto ≤ ksize) (iv_ko_4 : kfrom ≤ 940) (hTM : TM bt ktapeF) (hMT : MT bt ksize klimit hp kkind ksign kfrom kto knumber kword) (j8 : k7 ≤ 12) (j9 : 10 ≤ k7) (jW : ∀ j, 10 ≤ j → j < k7 → ¬ tW bt ksize klimit hp = j) (hm13 : 12 - k7 < n11 + 1) (c14 : 11 < k7) (c15 : k7 ≤ 11) (p24 : ktoG_18 ≤ ksize) (p25 : kfromG_19 ≤ 940) (p26 : MT bt ksize klimit (tT bt ksize klimit hp) kkindG_20 ksignG_22 kfromG_19 ktoG_18 knumberG_21 kwordG_23) : ((nI 1) = nI 1 ∧ (isO (pOne bt ksize klimit 10 11 hp) = true ∧ MT bt ksize klimit (tT bt ksize klimit hp) kkindG_20 ksignG_22 kfromG_19 ktoG_18 knumberG_21 kwordG_23 ∧ 0 ≤ (nI (k7 - 10)).toInt ∧ (nI (k7 - 10)).toInt ≤ 1 ∧ kfault = kfault ∧ kplace = kplace)) ∨ ((nI 1) = nI 0 ∧ (isO (pOne bt ksize klimit 10 11 hp) = false ∧ kfault = nI (erA (pOne bt ksize klimit 10 11 hp)) ∧ kplace = nI (erB (pOne bt ksize klimit 10 11 hp)))) := by
  have b9 : 0 ≤ (nI (k7 - 10)).toInt ∧ (nI (k7 - 10)).toInt ≤ 1 := by
    have b_kkind := ia_b kkind
    have b_knumber := ia_b knumber
    have b_ksign := ia_b ksign
    have b_kfault := ia_b kfault
    have b_kplace := ia_b kplace
    have b_kkindG_20 := ia_b kkindG_20
    have b_knumberG_21 := ia_b knumberG_21
    have b_ksignG_22 := ia_b ksignG_22
    have b_kword := Int64.toInt_lt kword
    have b_kwordG_23 := Int64.toInt_lt kwordG_23
    try have k_0 := ia_n 1 (by first | decide | omega)
    try have k_1 := ia_n (k7 - 10) (by first | decide | omega)
    try have k_2 := ia_n 0 (by first | decide | omega)
    try have k_3 := ia_n (erA (pOne bt ksize klimit 10 11 hp)) (by first | decide | omega)
    try have k_4 := ia_n (erB (pOne bt ksize klimit 10 11 hp)) (by first | decide | omega)
    try simp only [ia_lt, ia_le, ia_eq, ia_m1, ia_0, ia_1, ne_eq, true_and, and_true, false_and, and_false, or_false, false_or, or_true, true_or, not_true_eq_false, not_false_eq_true] at *
    all_goals omega
  rw [one_o (lo := 10) (hi := 11) (by omega) (by omega)]
  exact Or.inl ⟨rfl, rfl, ‹_›, b9.1, b9.2, (by first | rfl | assumption | (subst_vars; rfl) | (subst_vars; assumption)), (by first | rfl | assumption | (subst_vars; rfl) | (subst_vars; assumption))⟩
set_option maxRecDepth 20000 in
theorem lf_g_oneOf10_3 (bt : Nat → Nat) (ksize : Nat) (klimit : Nat) (kto : Nat) (kfrom : Nat) (kkind : Int32) (knumber : Int32) (ksign : Int32) (kfault : Int32) (kplace : Int32) (kword : Int64) (ktold : Int32) (ktapeF : Nat → Int32) (hp : Nat) (k7 : Nat) (n11 : Nat) (kfaultG_30 : Int32) (kplaceG_31 : Int32) (iv_ko_1 : ksize ≤ 940) (iv_ko_2 : klimit ≤ 900) (iv_ko_3 : kto ≤ ksize) (iv_ko_4 : kfrom ≤ 940) (hTM : TM bt ktapeF) (hMT : MT bt ksize klimit hp kkind ksign kfrom kto knumber kword) (j8 : k7 ≤ 12) (j9 : 10 ≤ k7) (jW : ∀ j, 10 ≤ j → j < k7 → ¬ tW bt ksize klimit hp = j) (hm13 : 12 - k7 < n11 + 1) (c14 : 11 < k7) (c15 : 11 < k7) (p33 : kfaultG_30 = (if tK bt ksize klimit hp = 1 then nI 1 else (nI 1))) (p34 : kplaceG_31 = nI (tF bt ksize klimit hp)) : ((nI 0) = nI 1 ∧ (isO (pOne bt ksize klimit 10 11 hp) = true ∧ MT bt ksize klimit (tT bt ksize klimit hp) kkind ksign kfrom kto knumber kword ∧ 0 ≤ ktold.toInt ∧ ktold.toInt ≤ 1 ∧ kfaultG_30 = kfault ∧ kplaceG_31 = kplace)) ∨ ((nI 0) = nI 0 ∧ (isO (pOne bt ksize klimit 10 11 hp) = false ∧ kfaultG_30 = nI (erA (pOne bt ksize klimit 10 11 hp)) ∧ kplaceG_31 = nI (erB (pOne bt ksize klimit 10 11 hp)))) := by
  rw [one_e (lo := 10) (hi := 11) (fun z => jW _ z.1 (by omega) rfl)]
  subst_vars
  exact Or.inr ⟨rfl, rfl, bad1, rfl⟩
set_option maxRecDepth 20000 in
theorem lf_g_oneOf10_4 (bt : Nat → Nat) (ksize : Nat) (klimit : Nat) (kto : Nat) (kfrom : Nat) (kkind : Int32) (knumber : Int32) (ksign : Int32) (kword : Int64) (ktapeF : Nat → Int32) (hp : Nat) (k7 : Nat) (n11 : Nat) (iv_ko_1 : ksize ≤ 940) (iv_ko_2 : klimit ≤ 900) (iv_ko_3 : kto ≤ ksize) (iv_ko_4 : kfrom ≤ 940) (hTM : TM bt ktapeF) (hMT : MT bt ksize klimit hp kkind ksign kfrom kto knumber kword) (j8 : k7 ≤ 12) (j9 : 10 ≤ k7) (jW : ∀ j, 10 ≤ j → j < k7 → ¬ tW bt ksize klimit hp = j) (hm13 : 12 - k7 < n11 + 1) (c14 : k7 ≤ 11) : k7 < 31 := by
  have b_kkind := ia_b kkind
  have b_knumber := ia_b knumber
  have b_ksign := ia_b ksign
  have b_kword := Int64.toInt_lt kword
  try simp only [ia_lt, ia_le, ia_eq, ia_m1, ia_0, ia_1, ne_eq, true_and, and_true, false_and, and_false, or_false, false_or, or_true, true_or, not_true_eq_false, not_false_eq_true] at *
  all_goals omega
set_option maxRecDepth 20000 in
theorem lf_g_oneOf10_5 (bt : Nat → Nat) (ksize : Nat) (klimit : Nat) (kto : Nat) (kfrom : Nat) (kkind : Int32) (knumber : Int32) (ksign : Int32) (kword : Int64) (ktapeF : Nat → Int32) (hp : Nat) (k7 : Nat) (n11 : Nat) (iv_ko_1 : ksize ≤ 940) (iv_ko_2 : klimit ≤ 900) (iv_ko_3 : kto ≤ ksize) (iv_ko_4 : kfrom ≤ 940) (hTM : TM bt ktapeF) (hMT : MT bt ksize klimit hp kkind ksign kfrom kto knumber kword) (j8 : k7 ≤ 12) (j9 : 10 ≤ k7) (jW : ∀ j, 10 ≤ j → j < k7 → ¬ tW bt ksize klimit hp = j) (hm13 : 12 - k7 < n11 + 1) (c14 : k7 ≤ 11) (t39 : tW bt ksize klimit hp = k7) (c42 : k7 ≤ 11) : 10 ≤ k7 := by
  have b_kkind := ia_b kkind
  have b_knumber := ia_b knumber
  have b_ksign := ia_b ksign
  have b_kword := Int64.toInt_lt kword
  try simp only [ia_lt, ia_le, ia_eq, ia_m1, ia_0, ia_1, ne_eq, true_and, and_true, false_and, and_false, or_false, false_or, or_true, true_or, not_true_eq_false, not_false_eq_true] at *
  all_goals omega
set_option maxRecDepth 20000 in
theorem lf_g_oneOf10_6 (bt : Nat → Nat) (ksize : Nat) (klimit : Nat) (kto : Nat) (kfrom : Nat) (kkind : Int32) (knumber : Int32) (ksign : Int32) (kfault : Int32) (kplace : Int32) (kword : Int64) (ktapeF : Nat → Int32) (hp : Nat) (k7 : Nat) (n11 : Nat) (ktoG_45 : Nat) (kfromG_46 : Nat) (kkindG_47 : Int32) (knumberG_48 : Int32) (ksignG_49 : Int32) (kwordG_50 : Int64) (iv_ko_1 : ksize ≤ 940) (iv_ko_2 : klimit ≤ 900) (iv_ko_3 : kto ≤ ksize) (iv_ko_4 : kfrom ≤ 940) (hTM : TM bt ktapeF) (hMT : MT bt ksize klimit hp kkind ksign kfrom kto knumber kword) (j8 : k7 ≤ 12) (j9 : 10 ≤ k7) (jW : ∀ j, 10 ≤ j → j < k7 → ¬ tW bt ksize klimit hp = j) (hm13 : 12 - k7 < n11 + 1) (c14 : k7 ≤ 11) (t39 : tW bt ksize klimit hp = k7) (c42 : k7 ≤ 11) (p51 : ktoG_45 ≤ ksize) (p52 : kfromG_46 ≤ 940) (p53 : MT bt ksize klimit (tT bt ksize klimit hp) kkindG_47 ksignG_49 kfromG_46 ktoG_45 knumberG_48 kwordG_50) : ((nI 1) = nI 1 ∧ (isO (pOne bt ksize klimit 10 11 hp) = true ∧ MT bt ksize klimit (tT bt ksize klimit hp) kkindG_47 ksignG_49 kfromG_46 ktoG_45 knumberG_48 kwordG_50 ∧ 0 ≤ (nI (k7 - 10)).toInt ∧ (nI (k7 - 10)).toInt ≤ 1 ∧ kfault = kfault ∧ kplace = kplace)) ∨ ((nI 1) = nI 0 ∧ (isO (pOne bt ksize klimit 10 11 hp) = false ∧ kfault = nI (erA (pOne bt ksize klimit 10 11 hp)) ∧ kplace = nI (erB (pOne bt ksize klimit 10 11 hp)))) := by
  have b9 : 0 ≤ (nI (k7 - 10)).toInt ∧ (nI (k7 - 10)).toInt ≤ 1 := by
    have b_kkind := ia_b kkind
    have b_knumber := ia_b knumber
    have b_ksign := ia_b ksign
    have b_kfault := ia_b kfault
    have b_kplace := ia_b kplace
    have b_kkindG_47 := ia_b kkindG_47
    have b_knumberG_48 := ia_b knumberG_48
    have b_ksignG_49 := ia_b ksignG_49
    have b_kword := Int64.toInt_lt kword
    have b_kwordG_50 := Int64.toInt_lt kwordG_50
    try have k_0 := ia_n 1 (by first | decide | omega)
    try have k_1 := ia_n (k7 - 10) (by first | decide | omega)
    try have k_2 := ia_n 0 (by first | decide | omega)
    try have k_3 := ia_n (erA (pOne bt ksize klimit 10 11 hp)) (by first | decide | omega)
    try have k_4 := ia_n (erB (pOne bt ksize klimit 10 11 hp)) (by first | decide | omega)
    try simp only [ia_lt, ia_le, ia_eq, ia_m1, ia_0, ia_1, ne_eq, true_and, and_true, false_and, and_false, or_false, false_or, or_true, true_or, not_true_eq_false, not_false_eq_true] at *
    all_goals omega
  rw [one_o (lo := 10) (hi := 11) (by omega) (by omega)]
  exact Or.inl ⟨rfl, rfl, ‹_›, b9.1, b9.2, (by first | rfl | assumption | (subst_vars; rfl) | (subst_vars; assumption)), (by first | rfl | assumption | (subst_vars; rfl) | (subst_vars; assumption))⟩
set_option maxRecDepth 20000 in
theorem lf_g_oneOf10_7 (bt : Nat → Nat) (ksize : Nat) (klimit : Nat) (kto : Nat) (kfrom : Nat) (kkind : Int32) (knumber : Int32) (ksign : Int32) (kfault : Int32) (kplace : Int32) (kword : Int64) (ktold : Int32) (ktapeF : Nat → Int32) (hp : Nat) (k7 : Nat) (n11 : Nat) (kfaultG_57 : Int32) (kplaceG_58 : Int32) (iv_ko_1 : ksize ≤ 940) (iv_ko_2 : klimit ≤ 900) (iv_ko_3 : kto ≤ ksize) (iv_ko_4 : kfrom ≤ 940) (hTM : TM bt ktapeF) (hMT : MT bt ksize klimit hp kkind ksign kfrom kto knumber kword) (j8 : k7 ≤ 12) (j9 : 10 ≤ k7) (jW : ∀ j, 10 ≤ j → j < k7 → ¬ tW bt ksize klimit hp = j) (hm13 : 12 - k7 < n11 + 1) (c14 : k7 ≤ 11) (t39 : tW bt ksize klimit hp = k7) (c42 : 11 < k7) (p60 : kfaultG_57 = (if tK bt ksize klimit hp = 1 then nI 1 else (nI 1))) (p61 : kplaceG_58 = nI (tF bt ksize klimit hp)) : ((nI 0) = nI 1 ∧ (isO (pOne bt ksize klimit 10 11 hp) = true ∧ MT bt ksize klimit (tT bt ksize klimit hp) kkind ksign kfrom kto knumber kword ∧ 0 ≤ ktold.toInt ∧ ktold.toInt ≤ 1 ∧ kfaultG_57 = kfault ∧ kplaceG_58 = kplace)) ∨ ((nI 0) = nI 0 ∧ (isO (pOne bt ksize klimit 10 11 hp) = false ∧ kfaultG_57 = nI (erA (pOne bt ksize klimit 10 11 hp)) ∧ kplaceG_58 = nI (erB (pOne bt ksize klimit 10 11 hp)))) := by
  rw [one_e (lo := 10) (hi := 11) (fun z => jW _ z.1 (by omega) rfl)]
  subst_vars
  exact Or.inr ⟨rfl, rfl, bad1, rfl⟩
set_option maxRecDepth 20000 in
theorem lf_g_oneOf10_8 (bt : Nat → Nat) (ksize : Nat) (klimit : Nat) (kto : Nat) (kfrom : Nat) (kkind : Int32) (knumber : Int32) (ksign : Int32) (kword : Int64) (ktapeF : Nat → Int32) (hp : Nat) (k7 : Nat) (n11 : Nat) (iv_ko_1 : ksize ≤ 940) (iv_ko_2 : klimit ≤ 900) (iv_ko_3 : kto ≤ ksize) (iv_ko_4 : kfrom ≤ 940) (hTM : TM bt ktapeF) (hMT : MT bt ksize klimit hp kkind ksign kfrom kto knumber kword) (j8 : k7 ≤ 12) (j9 : 10 ≤ k7) (jW : ∀ j, 10 ≤ j → j < k7 → ¬ tW bt ksize klimit hp = j) (hm13 : 12 - k7 < n11 + 1) (c14 : k7 ≤ 11) (t40 : ¬ tW bt ksize klimit hp = k7) : (k7 + 1) ≤ 12 := by
  have b_kkind := ia_b kkind
  have b_knumber := ia_b knumber
  have b_ksign := ia_b ksign
  have b_kword := Int64.toInt_lt kword
  try simp only [ia_lt, ia_le, ia_eq, ia_m1, ia_0, ia_1, ne_eq, true_and, and_true, false_and, and_false, or_false, false_or, or_true, true_or, not_true_eq_false, not_false_eq_true] at *
  all_goals omega
set_option maxRecDepth 20000 in
theorem lf_g_oneOf10_9 (bt : Nat → Nat) (ksize : Nat) (klimit : Nat) (kto : Nat) (kfrom : Nat) (kkind : Int32) (knumber : Int32) (ksign : Int32) (kword : Int64) (ktapeF : Nat → Int32) (hp : Nat) (k7 : Nat) (n11 : Nat) (iv_ko_1 : ksize ≤ 940) (iv_ko_2 : klimit ≤ 900) (iv_ko_3 : kto ≤ ksize) (iv_ko_4 : kfrom ≤ 940) (hTM : TM bt ktapeF) (hMT : MT bt ksize klimit hp kkind ksign kfrom kto knumber kword) (j8 : k7 ≤ 12) (j9 : 10 ≤ k7) (jW : ∀ j, 10 ≤ j → j < k7 → ¬ tW bt ksize klimit hp = j) (hm13 : 12 - k7 < n11 + 1) (c14 : k7 ≤ 11) (t40 : ¬ tW bt ksize klimit hp = k7) : 10 ≤ (k7 + 1) := by
  have b_kkind := ia_b kkind
  have b_knumber := ia_b knumber
  have b_ksign := ia_b ksign
  have b_kword := Int64.toInt_lt kword
  try simp only [ia_lt, ia_le, ia_eq, ia_m1, ia_0, ia_1, ne_eq, true_and, and_true, false_and, and_false, or_false, false_or, or_true, true_or, not_true_eq_false, not_false_eq_true] at *
  all_goals omega
set_option maxRecDepth 20000 in
theorem lf_g_oneOf10_10 (bt : Nat → Nat) (ksize : Nat) (klimit : Nat) (kto : Nat) (kfrom : Nat) (kkind : Int32) (knumber : Int32) (ksign : Int32) (kword : Int64) (ktapeF : Nat → Int32) (hp : Nat) (k7 : Nat) (n11 : Nat) (iv_ko_1 : ksize ≤ 940) (iv_ko_2 : klimit ≤ 900) (iv_ko_3 : kto ≤ ksize) (iv_ko_4 : kfrom ≤ 940) (hTM : TM bt ktapeF) (hMT : MT bt ksize klimit hp kkind ksign kfrom kto knumber kword) (j8 : k7 ≤ 12) (j9 : 10 ≤ k7) (jW : ∀ j, 10 ≤ j → j < k7 → ¬ tW bt ksize klimit hp = j) (hm13 : 12 - k7 < n11 + 1) (c14 : k7 ≤ 11) (t40 : ¬ tW bt ksize klimit hp = k7) : ∀ j, 10 ≤ j → j < (k7 + 1) → ¬ tW bt ksize klimit hp = j := by
  intro j h1 h2
  by_cases q : j = k7
  · rw [q]; assumption
  · exact jW j h1 (by omega)
set_option maxRecDepth 20000 in
theorem lf_g_oneOf10_11 (bt : Nat → Nat) (ksize : Nat) (klimit : Nat) (kto : Nat) (kfrom : Nat) (kkind : Int32) (knumber : Int32) (ksign : Int32) (kword : Int64) (ktapeF : Nat → Int32) (hp : Nat) (k7 : Nat) (n11 : Nat) (iv_ko_1 : ksize ≤ 940) (iv_ko_2 : klimit ≤ 900) (iv_ko_3 : kto ≤ ksize) (iv_ko_4 : kfrom ≤ 940) (hTM : TM bt ktapeF) (hMT : MT bt ksize klimit hp kkind ksign kfrom kto knumber kword) (j8 : k7 ≤ 12) (j9 : 10 ≤ k7) (jW : ∀ j, 10 ≤ j → j < k7 → ¬ tW bt ksize klimit hp = j) (hm13 : 12 - k7 < n11 + 1) (c14 : k7 ≤ 11) (t40 : ¬ tW bt ksize klimit hp = k7) : 12 - (k7 + 1) < n11 := by
  have b_kkind := ia_b kkind
  have b_knumber := ia_b knumber
  have b_ksign := ia_b ksign
  have b_kword := Int64.toInt_lt kword
  try simp only [ia_lt, ia_le, ia_eq, ia_m1, ia_0, ia_1, ne_eq, true_and, and_true, false_and, and_false, or_false, false_or, or_true, true_or, not_true_eq_false, not_false_eq_true] at *
  all_goals omega
set_option maxRecDepth 20000 in
theorem lf_g_oneOf10_12   : 10 ≤ 12 := by
  try simp only [ia_lt, ia_le, ia_eq, ia_m1, ia_0, ia_1, ne_eq, true_and, and_true, false_and, and_false, or_false, false_or, or_true, true_or, not_true_eq_false, not_false_eq_true] at *
  all_goals omega
set_option maxRecDepth 20000 in
theorem lf_g_oneOf10_13   : 10 ≤ 10 := by
  try simp only [ia_lt, ia_le, ia_eq, ia_m1, ia_0, ia_1, ne_eq, true_and, and_true, false_and, and_false, or_false, false_or, or_true, true_or, not_true_eq_false, not_false_eq_true] at *
  all_goals omega
set_option maxRecDepth 20000 in
theorem lf_g_oneOf10_14 (bt : Nat → Nat) (ksize : Nat) (klimit : Nat) (kto : Nat) (kfrom : Nat) (kkind : Int32) (knumber : Int32) (ksign : Int32) (kword : Int64) (ktapeF : Nat → Int32) (hp : Nat) (iv_ko_1 : ksize ≤ 940) (iv_ko_2 : klimit ≤ 900) (iv_ko_3 : kto ≤ ksize) (iv_ko_4 : kfrom ≤ 940) (hTM : TM bt ktapeF) (hMT : MT bt ksize klimit hp kkind ksign kfrom kto knumber kword) : ∀ j, 10 ≤ j → j < 10 → ¬ tW bt ksize klimit hp = j := by
  intro j h1 h2; omega
set_option maxHeartbeats 4000000 in
set_option maxRecDepth 100000 in
theorem c_g_oneOf10 (l : Launch) (dC : Nat → ClassId) (dI : Nat → Nat → Nat) (ky : Nat → ClassId) (sz : Nat) (bt : Nat → Nat) (o : Nat) (kthrown : Int32) (ktape : Nat) (ktaped : Nat) (ksize : Nat) (klimit : Nat) (kto : Nat) (kfrom : Nat) (kkind : Int32) (knumber : Int32) (ksign : Int32) (kfault : Int32) (kplace : Int32) (kword : Int64) (ktold : Int32) (know : Nat) (kread : Nat) (kkept : Nat) (ksnaps : Nat) (kaside : Nat) (kname : Nat) (kreadName : Nat) (kkeptName : Nat) (kisKept : Nat) (konces : Nat) (ksnapMany : Nat) (khasCells : Int32) (kpoured : Nat) (kfar : Nat) (ksides : Nat) (ksideMany : Nat) (kwayDays : Int32) (khasWay : Int32) (klines : Nat) (kmet : Nat) (kmetMany : Nat) (ksunk : Nat) (ktrying : Nat) (ksunkMany : Nat) (ksending : Int32) (kfleets : Int32) (ktext : Nat) (ktexts : Nat) (kseed : Int32) (kline : Nat) (kwritten : Nat) (klineMany : Nat) (khasWritten : Int32) (knode : Nat) (knodes : Nat) (konesMany : Nat) (kwithin : Nat) (ktop : Nat) (ktapeF : Nat → Int32) (hp : Nat) (iv_ko_0 : ktaped ≤ 940) (iv_ko_1 : ksize ≤ 940) (iv_ko_2 : klimit ≤ 900) (iv_ko_3 : kto ≤ ksize) (iv_ko_4 : kfrom ≤ 940) (iv_ko_5 : ksnapMany ≤ 8) (iv_ko_6 : ksideMany ≤ 36) (iv_ko_7 : kmetMany ≤ 3) (iv_ko_8 : ksunkMany ≤ 36) (iv_ko_9 : ktexts ≤ 64) (iv_ko_10 : klineMany ≤ 40) (iv_ko_11 : knodes ≤ 60) (iv_ko_12 : konesMany ≤ 20) (iv_ko_13 : kwithin ≤ 8) (iv_ko_14 : ktop ≤ 59) (hTM : TM bt ktapeF) (hMT : MT bt ksize klimit hp kkind ksign kfrom kto knumber kword) : Met l yX12_readOneOf wsX12_readOneOf ({ frames := 3, cells := 0, slots := 0, locals := 68 }) (PcU dC dI ky [.ref o, .int (nI 10), .int (nI 11)] [(o, .inr (12, [.int kthrown, .ref ktape, .int (nI ktaped), .int (nI ksize), .int (nI klimit), .int (nI kto), .int (nI kfrom), .int kkind, .int knumber, .int ksign, .int kfault, .int kplace, .long kword, .int ktold, .ref know, .ref kread, .ref kkept, .ref ksnaps, .ref kaside, .ref kname, .ref kreadName, .ref kkeptName, .ref kisKept, .ref konces, .int (nI ksnapMany), .int khasCells, .ref kpoured, .ref kfar, .ref ksides, .int (nI ksideMany), .int kwayDays, .int khasWay, .ref klines, .ref kmet, .int (nI kmetMany), .ref ksunk, .ref ktrying, .int (nI ksunkMany), .int ksending, .int kfleets, .ref ktext, .int (nI ktexts), .int kseed, .ref kline, .ref kwritten, .int (nI klineMany), .int khasWritten, .ref knode, .int (nI knodes), .int (nI konesMany), .int (nI kwithin), .int (nI ktop)])), (ktape, .inl (ky 0, 940, .inl ktapeF))] sz) (va_Qi (fun (r : Int32) (u : Nat × Nat × Int32 × Int32 × Int32 × Int32 × Int32 × Int64 × Int32) => match u with | (ktoG, kfromG, kkindG, knumberG, ksignG, kfaultG, kplaceG, kwordG, ktoldG) => ((r = nI 1 ∧ (isO (pOne bt ksize klimit 10 11 hp) = true ∧ MT bt ksize klimit (tT bt ksize klimit hp) kkindG ksignG kfromG ktoG knumberG kwordG ∧ 0 ≤ ktoldG.toInt ∧ ktoldG.toInt ≤ 1 ∧ kfaultG = kfault ∧ kplaceG = kplace)) ∨ (r = nI 0 ∧ (isO (pOne bt ksize klimit 10 11 hp) = false ∧ kfaultG = nI (erA (pOne bt ksize klimit 10 11 hp)) ∧ kplaceG = nI (erB (pOne bt ksize klimit 10 11 hp))))) ∧ (ktoG ≤ ksize) ∧ (kfromG ≤ 940)) (BU dC dI ky (fun (u : Nat × Nat × Int32 × Int32 × Int32 × Int32 × Int32 × Int64 × Int32) => match u with | (ktoG, kfromG, kkindG, knumberG, ksignG, kfaultG, kplaceG, kwordG, ktoldG) => [(o, .inr (12, [.int kthrown, .ref ktape, .int (nI ktaped), .int (nI ksize), .int (nI klimit), .int (nI ktoG), .int (nI kfromG), .int kkindG, .int knumberG, .int ksignG, .int kfaultG, .int kplaceG, .long kwordG, .int ktoldG, .ref know, .ref kread, .ref kkept, .ref ksnaps, .ref kaside, .ref kname, .ref kreadName, .ref kkeptName, .ref kisKept, .ref konces, .int (nI ksnapMany), .int khasCells, .ref kpoured, .ref kfar, .ref ksides, .int (nI ksideMany), .int kwayDays, .int khasWay, .ref klines, .ref kmet, .int (nI kmetMany), .ref ksunk, .ref ktrying, .int (nI ksunkMany), .int ksending, .int kfleets, .ref ktext, .int (nI ktexts), .int kseed, .ref kline, .ref kwritten, .int (nI klineMany), .int khasWritten, .ref knode, .int (nI knodes), .int (nI konesMany), .int (nI kwithin), .int (nI ktop)])), (ktape, .inl (ky 0, 940, .inl ktapeF))]) (va_A [(o, .inr (12, [.int kthrown, .ref ktape, .int (nI ktaped), .int (nI ksize), .int (nI klimit), .int (nI kto), .int (nI kfrom), .int kkind, .int knumber, .int ksign, .int kfault, .int kplace, .long kword, .int ktold, .ref know, .ref kread, .ref kkept, .ref ksnaps, .ref kaside, .ref kname, .ref kreadName, .ref kkeptName, .ref kisKept, .ref konces, .int (nI ksnapMany), .int khasCells, .ref kpoured, .ref kfar, .ref ksides, .int (nI ksideMany), .int kwayDays, .int khasWay, .ref klines, .ref kmet, .int (nI kmetMany), .ref ksunk, .ref ktrying, .int (nI ksunkMany), .int ksending, .int kfleets, .ref ktext, .int (nI ktexts), .int kseed, .ref kline, .ref kwritten, .int (nI klineMany), .int khasWritten, .ref knode, .int (nI knodes), .int (nI konesMany), .int (nI kwithin), .int (nI ktop)])), (ktape, .inl (ky 0, 940, .inl ktapeF))] sz)) (va_A [(o, .inr (12, [.int kthrown, .ref ktape, .int (nI ktaped), .int (nI ksize), .int (nI klimit), .int (nI kto), .int (nI kfrom), .int kkind, .int knumber, .int ksign, .int kfault, .int kplace, .long kword, .int ktold, .ref know, .ref kread, .ref kkept, .ref ksnaps, .ref kaside, .ref kname, .ref kreadName, .ref kkeptName, .ref kisKept, .ref konces, .int (nI ksnapMany), .int khasCells, .ref kpoured, .ref kfar, .ref ksides, .int (nI ksideMany), .int kwayDays, .int khasWay, .ref klines, .ref kmet, .int (nI kmetMany), .ref ksunk, .ref ktrying, .int (nI ksunkMany), .int ksending, .int kfleets, .ref ktext, .int (nI ktexts), .int kseed, .ref kline, .ref kwritten, .int (nI klineMany), .int khasWritten, .ref knode, .int (nI knodes), .int (nI konesMany), .int (nI kwithin), .int (nI ktop)])), (ktape, .inl (ky 0, 940, .inl ktapeF))] sz)) 0 0 (va_A [(o, .inr (12, [.int kthrown, .ref ktape, .int (nI ktaped), .int (nI ksize), .int (nI klimit), .int (nI kto), .int (nI kfrom), .int kkind, .int knumber, .int ksign, .int kfault, .int kplace, .long kword, .int ktold, .ref know, .ref kread, .ref kkept, .ref ksnaps, .ref kaside, .ref kname, .ref kreadName, .ref kkeptName, .ref kisKept, .ref konces, .int (nI ksnapMany), .int khasCells, .ref kpoured, .ref kfar, .ref ksides, .int (nI ksideMany), .int kwayDays, .int khasWay, .ref klines, .ref kmet, .int (nI kmetMany), .ref ksunk, .ref ktrying, .int (nI ksunkMany), .int ksending, .int kfleets, .ref ktext, .int (nI ktexts), .int kseed, .ref kline, .ref kwritten, .int (nI klineMany), .int khasWritten, .ref knode, .int (nI knodes), .int (nI konesMany), .int (nI kwithin), .int (nI ktop)])), (ktape, .inl (ky 0, 940, .inl ktapeF))] sz) := by
  refine Met.ofW (cc := cX12_readOneOf) (maxL := 4) (ret := (some .boolean)) (by decide) rfl ?_
  intro p e s m args below meth c s₁ B hml hv
  obtain ⟨rfl, hsz, hP, hK, hD0⟩ := hv
  have hx := B.exec
  have hb := B.bytes
  have hr := B.returns
  have hts := atoms_spec (ws := wsX12_readOneOf) B.pre
  have hown : s.vm.findClass RX12 = some m.cls := findClass_of_methodNamed B.named
  have hlocks := B.notSynchronized
  have hin12 : ∀ w ∈ u_ws RX12 TX12 52, w ∈ wsX12_readOneOf := by decide +kernel
  subst hsz
  have hD := hD0.self (sz := s.heap.size)
  generalize hAe : va_A [(o, .inr (12, [.int kthrown, .ref ktape, .int (nI ktaped), .int (nI ksize), .int (nI klimit), .int (nI kto), .int (nI kfrom), .int kkind, .int knumber, .int ksign, .int kfault, .int kplace, .long kword, .int ktold, .ref know, .ref kread, .ref kkept, .ref ksnaps, .ref kaside, .ref kname, .ref kreadName, .ref kkeptName, .ref kisKept, .ref konces, .int (nI ksnapMany), .int khasCells, .ref kpoured, .ref kfar, .ref ksides, .int (nI ksideMany), .int kwayDays, .int khasWay, .ref klines, .ref kmet, .int (nI kmetMany), .ref ksunk, .ref ktrying, .int (nI ksunkMany), .int ksending, .int kfleets, .ref ktext, .int (nI ktexts), .int kseed, .ref kline, .ref kwritten, .int (nI klineMany), .int khasWritten, .ref knode, .int (nI knodes), .int (nI konesMany), .int (nI kwithin), .int (nI ktop)])), (ktape, .inl (ky 0, 940, .inl ktapeF))] s.heap.size = A at hD ⊢
  have hA : ∀ q : Nat, s.heap.size ≤ q → A q := fun q h => by rw [← hAe]; exact Or.inr h
  have hS : va_S A s.heap s.heap [] := va_S.rf
  have hl := lv_entry ([.ref o, .int (nI 10), .int (nI 11)]) (n := 4) (Nat.le_of_ble_eq_true rfl)
  rw [lg_entry_eq]
  generalize (lg_sl ([.ref o, .int (nI 10), .int (nI 11)]) ++ List.replicate (4 - (lg_sl ([.ref o, .int (nI 10), .int (nI 11)])).length) Slot.unset).toArray = ls at hl ⊢
  have hl : lv_has ls 4 [(0, .ref o), (1, .int (nI 10)), (2, .int (nI 11))] := hl
  refine q_name (fun Q hQ => ?_)
  generalize ([.ref o, .int (nI 10), .int (nI 11)] : List Value).toArray = args at hts hQ ⊢
  refine lv_iload_n hx hb dX12_readOneOf_0 rfl (lv_at hl 1 rfl) ?_
  refine lv_istore_n (lv' := [(3, .int (nI 10)), (0, .ref o), (1, .int (nI 10)), (2, .int (nI 11))]) hx hb dX12_readOneOf_1 rfl hl (by decide) rfl (fun ls hl => ?_)
  have hL10 : ∀ (n11 : Nat) (k7 : Nat), (k7 ≤ 12) → (10 ≤ k7) → (∀ j, 10 ≤ j → j < k7 → ¬ tW bt ksize klimit hp = j) → 12 - k7 < n11 → ∀ (H : Heap) (locs : List Loc) (ls : Array Slot), va_P (dC, dI) vwCl [(o, .inr (12, [.int kthrown, .ref ktape, .int (nI ktaped), .int (nI ksize), .int (nI klimit), .int (nI kto), .int (nI kfrom), .int kkind, .int knumber, .int ksign, .int kfault, .int kplace, .long kword, .int ktold, .ref know, .ref kread, .ref kkept, .ref ksnaps, .ref kaside, .ref kname, .ref kreadName, .ref kkeptName, .ref kisKept, .ref konces, .int (nI ksnapMany), .int khasCells, .ref kpoured, .ref kfar, .ref ksides, .int (nI ksideMany), .int kwayDays, .int khasWay, .ref klines, .ref kmet, .int (nI kmetMany), .ref ksunk, .ref ktrying, .int (nI ksunkMany), .int ksending, .int kfleets, .ref ktext, .int (nI ktexts), .int kseed, .ref kline, .ref kwritten, .int (nI klineMany), .int khasWritten, .ref knode, .int (nI knodes), .int (nI konesMany), .int (nI kwithin), .int (nI ktop)])), (ktape, .inl (ky 0, 940, .inl ktapeF))] H → va_D A [(o, .inr (12, [.int kthrown, .ref ktape, .int (nI ktaped), .int (nI ksize), .int (nI klimit), .int (nI kto), .int (nI kfrom), .int kkind, .int knumber, .int ksign, .int kfault, .int kplace, .long kword, .int ktold, .ref know, .ref kread, .ref kkept, .ref ksnaps, .ref kaside, .ref kname, .ref kreadName, .ref kkeptName, .ref kisKept, .ref konces, .int (nI ksnapMany), .int khasCells, .ref kpoured, .ref kfar, .ref ksides, .int (nI ksideMany), .int kwayDays, .int khasWay, .ref klines, .ref kmet, .int (nI kmetMany), .ref ksunk, .ref ktrying, .int (nI ksunkMany), .int ksending, .int kfleets, .ref ktext, .int (nI ktexts), .int kseed, .ref kline, .ref kwritten, .int (nI klineMany), .int khasWritten, .ref knode, .int (nI knodes), .int (nI konesMany), .int (nI kwithin), .int (nI ktop)])), (ktape, .inl (ky 0, 940, .inl ktapeF))] → va_S A s.heap H locs → lv_has ls 4 [(3, .int (nI k7)), (0, .ref o), (1, .int (nI 10)), (2, .int (nI 11))] → W p l e (headSpec wsX12_readOneOf ({ frames := 3, cells := 0, slots := 0, locals := 68 })).room s m args below meth c H locs 0 0 Q (F0 m 2 ls []) := by
    intro n11
    induction n11 with
    | zero => intro k7 _ _ _ h9; exact absurd h9 (Nat.not_lt_zero _)
    | succ n11 ih12 =>
      intro k7 j8 j9 jW hm13 H locs ls hP hD hS hl
      refine lv_iload_n hx hb dX12_readOneOf_2 rfl (lv_at hl 0 rfl) ?_
      refine lv_iload_n hx hb dX12_readOneOf_3 rfl (lv_at hl 3 rfl) ?_
      refine n_icmp_gt (x := k7) (y := 11) (tgt := 21) hx hb (by omega) (by omega) dX12_readOneOf_4 (by decide) (fun c14 => ?_) (fun c14 => ?_)
      · refine lv_iload_n hx hb dX12_readOneOf_21 rfl (lv_at hl 0 rfl) ?_
        refine lv_iload_n hx hb dX12_readOneOf_22 rfl (lv_at hl 3 rfl) ?_
        refine n_icmp_le (x := k7) (y := 11) (tgt := 32) hx hb (by omega) (by omega) dX12_readOneOf_23 (by decide) (fun c15 => ?_) (fun c15 => ?_)
        · refine lv_aload_n hx hb dX12_readOneOf_32 rfl (lv_at hl 1 rfl) ?_
          refine lv_iload_n hx hb dX12_readOneOf_33 rfl (lv_at hl 0 rfl) ?_
          refine lv_iload_n hx hb dX12_readOneOf_34 rfl (lv_at hl 2 rfl) ?_
          refine lv_isub hx hb dX12_readOneOf_35 ?_
          refine r_ti (nI (k7 - 10)) (pk_sub (lf_g_oneOf10_1 bt ksize klimit kto kfrom kkind knumber ksign kword ktapeF hp k7 n11 iv_ko_1 iv_ko_2 iv_ko_3 iv_ko_4 hTM hMT j8 j9 jW hm13 c14 c15)) ?_
          refine va_put (D := (dC, dI)) (ci := 12) (v := .int (nI (k7 - 10))) (ty := .int) (C := RX12) (T := TX12) (N := 52) hx hb hts hin12 tyX12 tyX12_ok nmX12 hown hK hP hD hS 0 rfl rfl 13 (by decide) (hts (.fieldLink RX12 79 "PorridgeSeaModel" "told" "I") (List.mem_of_getElem? (i := 1) rfl)) (fun _ h9 => h9) rfl (by decide +kernel) rfl rfl (Nat.le_of_ble_eq_true rfl) dX12_readOneOf_36 (fun H locs hP hD hS => ?_)
          have hP : va_P (dC, dI) vwCl [(o, .inr (12, [.int kthrown, .ref ktape, .int (nI ktaped), .int (nI ksize), .int (nI klimit), .int (nI kto), .int (nI kfrom), .int kkind, .int knumber, .int ksign, .int kfault, .int kplace, .long kword, .int (nI (k7 - 10)), .ref know, .ref kread, .ref kkept, .ref ksnaps, .ref kaside, .ref kname, .ref kreadName, .ref kkeptName, .ref kisKept, .ref konces, .int (nI ksnapMany), .int khasCells, .ref kpoured, .ref kfar, .ref ksides, .int (nI ksideMany), .int kwayDays, .int khasWay, .ref klines, .ref kmet, .int (nI kmetMany), .ref ksunk, .ref ktrying, .int (nI ksunkMany), .int ksending, .int kfleets, .ref ktext, .int (nI ktexts), .int kseed, .ref kline, .ref kwritten, .int (nI klineMany), .int khasWritten, .ref knode, .int (nI knodes), .int (nI konesMany), .int (nI kwithin), .int (nI ktop)])), (ktape, .inl (ky 0, 940, .inl ktapeF))] H := hP
          have hD : va_D A [(o, .inr (12, [.int kthrown, .ref ktape, .int (nI ktaped), .int (nI ksize), .int (nI klimit), .int (nI kto), .int (nI kfrom), .int kkind, .int knumber, .int ksign, .int kfault, .int kplace, .long kword, .int (nI (k7 - 10)), .ref know, .ref kread, .ref kkept, .ref ksnaps, .ref kaside, .ref kname, .ref kreadName, .ref kkeptName, .ref kisKept, .ref konces, .int (nI ksnapMany), .int khasCells, .ref kpoured, .ref kfar, .ref ksides, .int (nI ksideMany), .int kwayDays, .int khasWay, .ref klines, .ref kmet, .int (nI kmetMany), .ref ksunk, .ref ktrying, .int (nI ksunkMany), .int ksending, .int kfleets, .ref ktext, .int (nI ktexts), .int kseed, .ref kline, .ref kwritten, .int (nI klineMany), .int khasWritten, .ref knode, .int (nI knodes), .int (nI konesMany), .int (nI kwithin), .int (nI ktop)])), (ktape, .inl (ky 0, 940, .inl ktapeF))] := hD
          refine lv_aload_n hx hb dX12_readOneOf_39 rfl (lv_at hl 1 rfl) ?_
          refine r_call_v (wr := []) (va_runV (As := []) (rest := []) ⟨hx, hb, hml, hown, hts⟩ (c_g_go l dC dI ky H.size bt o kthrown ktape ktaped ksize klimit kto kfrom kkind knumber ksign kfault kplace kword (nI (k7 - 10)) know kread kkept ksnaps kaside kname kreadName kkeptName kisKept konces ksnapMany khasCells kpoured kfar ksides ksideMany kwayDays khasWay klines kmet kmetMany ksunk ktrying ksunkMany ksending kfleets ktext ktexts kseed kline kwritten klineMany khasWritten knode knodes konesMany kwithin ktop ktapeF (tT bt ksize klimit hp) iv_ko_0 iv_ko_1 iv_ko_2 iv_ko_3 iv_ko_4 iv_ko_5 iv_ko_6 iv_ko_7 iv_ko_8 iv_ko_9 iv_ko_10 iv_ko_11 iv_ko_12 iv_ko_13 iv_ko_14 hTM hMT.2.2.1) (cwV 0 hts gX12_readOneOf_X12_go rfl rfl rfl (by decide +kernel) ⟨(Nat.le_of_ble_eq_true rfl), (Nat.le_of_ble_eq_true rfl)⟩) (pre_UV hK hP hD [0, 1] (by decide) rfl (ci := 12) (q0 := 0) rfl rfl) rfl rfl hl.1 rfl (lv_room (Nat.le_of_ble_eq_true rfl)) dX12_readOneOf_40 ⟨(Nat.le_of_ble_eq_true rfl), (Nat.le_of_ble_eq_true rfl)⟩) hP hD hS hA [0, 1] [] rfl rfl (by decide) (by decide) (fun  u16 H locs p17 hP hD hS => ?_)
          obtain ⟨ktoG_18, kfromG_19, kkindG_20, knumberG_21, ksignG_22, kwordG_23⟩ := u16
          try dsimp only at p17
          obtain ⟨p24, p25, p26⟩ := p17
          refine W.widen (k := 0) (n := 0) (Nat.le_of_ble_eq_true rfl) (Nat.le_of_ble_eq_true rfl) ?_
          have hP : va_P (dC, dI) vwCl [(o, .inr (12, [.int kthrown, .ref ktape, .int (nI ktaped), .int (nI ksize), .int (nI klimit), .int (nI ktoG_18), .int (nI kfromG_19), .int kkindG_20, .int knumberG_21, .int ksignG_22, .int kfault, .int kplace, .long kwordG_23, .int (nI (k7 - 10)), .ref know, .ref kread, .ref kkept, .ref ksnaps, .ref kaside, .ref kname, .ref kreadName, .ref kkeptName, .ref kisKept, .ref konces, .int (nI ksnapMany), .int khasCells, .ref kpoured, .ref kfar, .ref ksides, .int (nI ksideMany), .int kwayDays, .int khasWay, .ref klines, .ref kmet, .int (nI kmetMany), .ref ksunk, .ref ktrying, .int (nI ksunkMany), .int ksending, .int kfleets, .ref ktext, .int (nI ktexts), .int kseed, .ref kline, .ref kwritten, .int (nI klineMany), .int khasWritten, .ref knode, .int (nI knodes), .int (nI konesMany), .int (nI kwithin), .int (nI ktop)])), (ktape, .inl (ky 0, 940, .inl ktapeF))] H := hP
          have hD : va_D A [(o, .inr (12, [.int kthrown, .ref ktape, .int (nI ktaped), .int (nI ksize), .int (nI klimit), .int (nI ktoG_18), .int (nI kfromG_19), .int kkindG_20, .int knumberG_21, .int ksignG_22, .int kfault, .int kplace, .long kwordG_23, .int (nI (k7 - 10)), .ref know, .ref kread, .ref kkept, .ref ksnaps, .ref kaside, .ref kname, .ref kreadName, .ref kkeptName, .ref kisKept, .ref konces, .int (nI ksnapMany), .int khasCells, .ref kpoured, .ref kfar, .ref ksides, .int (nI ksideMany), .int kwayDays, .int khasWay, .ref klines, .ref kmet, .int (nI kmetMany), .ref ksunk, .ref ktrying, .int (nI ksunkMany), .int ksending, .int kfleets, .ref ktext, .int (nI ktexts), .int kseed, .ref kline, .ref kwritten, .int (nI klineMany), .int khasWritten, .ref knode, .int (nI knodes), .int (nI konesMany), .int (nI kwithin), .int (nI ktop)])), (ktape, .inl (ky 0, 940, .inl ktapeF))] := hD
          refine lv_iconst (v := nI 1) hx hb dX12_readOneOf_43 (by decide) ?_
          rw [hQ]
          exact W.zret (v := nI 1) hx hb hr (by decide) (fun t9 ht9 hW9 => ⟨⟨nI 1, (ktoG_18, kfromG_19, kkindG_20, knumberG_21, ksignG_22, kfault, kplace, kwordG_23, nI (k7 - 10)), rfl, ⟨(lf_g_oneOf10_2 bt ksize klimit kto kfrom kkind knumber ksign kfault kplace kword ktapeF hp k7 n11 ktoG_18 kfromG_19 kkindG_20 knumberG_21 ksignG_22 kwordG_23 iv_ko_1 iv_ko_2 iv_ko_3 iv_ko_4 hTM hMT j8 j9 jW hm13 c14 c15 p24 p25 p26), p24, p25⟩, by rw [ht9]; exact hP, va_K.moved hW9.alike hK, hD⟩, hS.F ht9⟩) hS.2.2 dX12_readOneOf_44
        · refine lv_aload_n hx hb dX12_readOneOf_26 rfl (lv_at hl 1 rfl) ?_
          refine lv_iconst (v := nI 1) hx hb dX12_readOneOf_27 (by decide) ?_
          refine r_call_i (wr := []) (va_runV (As := [.int (nI 1)]) (rest := []) ⟨hx, hb, hml, hown, hts⟩ (c_g_bad l dC dI ky H.size bt o kthrown ktape ktaped ksize klimit kto kfrom kkind knumber ksign kfault kplace kword ktold know kread kkept ksnaps kaside kname kreadName kkeptName kisKept konces ksnapMany khasCells kpoured kfar ksides ksideMany kwayDays khasWay klines kmet kmetMany ksunk ktrying ksunkMany ksending kfleets ktext ktexts kseed kline kwritten klineMany khasWritten knode knodes konesMany kwithin ktop ktapeF hp (nI 1) iv_ko_0 iv_ko_1 iv_ko_2 iv_ko_3 iv_ko_4 iv_ko_5 iv_ko_6 iv_ko_7 iv_ko_8 iv_ko_9 iv_ko_10 iv_ko_11 iv_ko_12 iv_ko_13 iv_ko_14 hTM hMT) (cwV 1 hts gX12_readOneOf_X12_bad rfl rfl rfl (by decide +kernel) ⟨(Nat.le_of_ble_eq_true rfl), (Nat.le_of_ble_eq_true rfl)⟩) (pre_UV hK hP hD [0, 1] (by decide) rfl (ci := 12) (q0 := 0) rfl rfl) rfl rfl hl.1 rfl (lv_room (Nat.le_of_ble_eq_true rfl)) dX12_readOneOf_28 ⟨(Nat.le_of_ble_eq_true rfl), (Nat.le_of_ble_eq_true rfl)⟩) hP hD hS hA [0, 1] [] rfl rfl (by decide) (by decide) (fun r29 u27 H locs p28 hP hD hS => ?_)
          obtain ⟨kfaultG_30, kplaceG_31⟩ := u27
          try dsimp only at p28
          obtain ⟨p32, p33, p34⟩ := p28
          refine W.widen (k := 0) (n := 0) (Nat.le_of_ble_eq_true rfl) (Nat.le_of_ble_eq_true rfl) ?_
          have hP : va_P (dC, dI) vwCl [(o, .inr (12, [.int kthrown, .ref ktape, .int (nI ktaped), .int (nI ksize), .int (nI klimit), .int (nI kto), .int (nI kfrom), .int kkind, .int knumber, .int ksign, .int kfaultG_30, .int kplaceG_31, .long kword, .int ktold, .ref know, .ref kread, .ref kkept, .ref ksnaps, .ref kaside, .ref kname, .ref kreadName, .ref kkeptName, .ref kisKept, .ref konces, .int (nI ksnapMany), .int khasCells, .ref kpoured, .ref kfar, .ref ksides, .int (nI ksideMany), .int kwayDays, .int khasWay, .ref klines, .ref kmet, .int (nI kmetMany), .ref ksunk, .ref ktrying, .int (nI ksunkMany), .int ksending, .int kfleets, .ref ktext, .int (nI ktexts), .int kseed, .ref kline, .ref kwritten, .int (nI klineMany), .int khasWritten, .ref knode, .int (nI knodes), .int (nI konesMany), .int (nI kwithin), .int (nI ktop)])), (ktape, .inl (ky 0, 940, .inl ktapeF))] H := hP
          have hD : va_D A [(o, .inr (12, [.int kthrown, .ref ktape, .int (nI ktaped), .int (nI ksize), .int (nI klimit), .int (nI kto), .int (nI kfrom), .int kkind, .int knumber, .int ksign, .int kfaultG_30, .int kplaceG_31, .long kword, .int ktold, .ref know, .ref kread, .ref kkept, .ref ksnaps, .ref kaside, .ref kname, .ref kreadName, .ref kkeptName, .ref kisKept, .ref konces, .int (nI ksnapMany), .int khasCells, .ref kpoured, .ref kfar, .ref ksides, .int (nI ksideMany), .int kwayDays, .int khasWay, .ref klines, .ref kmet, .int (nI kmetMany), .ref ksunk, .ref ktrying, .int (nI ksunkMany), .int ksending, .int kfleets, .ref ktext, .int (nI ktexts), .int kseed, .ref kline, .ref kwritten, .int (nI klineMany), .int khasWritten, .ref knode, .int (nI knodes), .int (nI konesMany), .int (nI kwithin), .int (nI ktop)])), (ktape, .inl (ky 0, 940, .inl ktapeF))] := hD
          subst p32
          rw [hQ]
          exact W.zret (v := nI 0) hx hb hr (by decide) (fun t9 ht9 hW9 => ⟨⟨nI 0, (kto, kfrom, kkind, knumber, ksign, kfaultG_30, kplaceG_31, kword, ktold), rfl, ⟨(lf_g_oneOf10_3 bt ksize klimit kto kfrom kkind knumber ksign kfault kplace kword ktold ktapeF hp k7 n11 kfaultG_30 kplaceG_31 iv_ko_1 iv_ko_2 iv_ko_3 iv_ko_4 hTM hMT j8 j9 jW hm13 c14 c15 p33 p34), iv_ko_3, iv_ko_4⟩, by rw [ht9]; exact hP, va_K.moved hW9.alike hK, hD⟩, hS.F ht9⟩) hS.2.2 dX12_readOneOf_31
      · refine lv_aload_n hx hb dX12_readOneOf_7 rfl (lv_at hl 1 rfl) ?_
        refine lv_iload_n hx hb dX12_readOneOf_8 rfl (lv_at hl 0 rfl) ?_
        refine r_call_i (wr := []) (va_runV (As := [.int (nI k7)]) (rest := []) ⟨hx, hb, hml, hown, hts⟩ (c_g_isWordN l dC dI ky H.size bt o kthrown ktape ktaped ksize klimit kto kfrom kkind knumber ksign kfault kplace kword ktold know kread kkept ksnaps kaside kname kreadName kkeptName kisKept konces ksnapMany khasCells kpoured kfar ksides ksideMany kwayDays khasWay klines kmet kmetMany ksunk ktrying ksunkMany ksending kfleets ktext ktexts kseed kline kwritten klineMany khasWritten knode knodes konesMany kwithin ktop ktapeF hp k7 iv_ko_0 iv_ko_1 iv_ko_2 iv_ko_3 iv_ko_4 iv_ko_5 iv_ko_6 iv_ko_7 iv_ko_8 iv_ko_9 iv_ko_10 iv_ko_11 iv_ko_12 iv_ko_13 iv_ko_14 hTM hMT (lf_g_oneOf10_4 bt ksize klimit kto kfrom kkind knumber ksign kword ktapeF hp k7 n11 iv_ko_1 iv_ko_2 iv_ko_3 iv_ko_4 hTM hMT j8 j9 jW hm13 c14)) (cwV 1 hts gX12_readOneOf_X12_isWord rfl rfl rfl (by decide +kernel) ⟨(Nat.le_of_ble_eq_true rfl), (Nat.le_of_ble_eq_true rfl)⟩) (pre_UV hK hP hD [0, 1] (by decide) rfl (ci := 12) (q0 := 0) rfl rfl) rfl rfl hl.1 rfl (lv_room (Nat.le_of_ble_eq_true rfl)) dX12_readOneOf_9 ⟨(Nat.le_of_ble_eq_true rfl), (Nat.le_of_ble_eq_true rfl)⟩) hP hD hS hA [0, 1] [] rfl rfl (by decide) (by decide) (fun r37 u35 H locs p36 hP hD hS => ?_)
        try dsimp only at p36
        have p38 := p36
        refine W.widen (k := 0) (n := 0) (Nat.le_of_ble_eq_true rfl) (Nat.le_of_ble_eq_true rfl) ?_
        have hP : va_P (dC, dI) vwCl [(o, .inr (12, [.int kthrown, .ref ktape, .int (nI ktaped), .int (nI ksize), .int (nI klimit), .int (nI kto), .int (nI kfrom), .int kkind, .int knumber, .int ksign, .int kfault, .int kplace, .long kword, .int ktold, .ref know, .ref kread, .ref kkept, .ref ksnaps, .ref kaside, .ref kname, .ref kreadName, .ref kkeptName, .ref kisKept, .ref konces, .int (nI ksnapMany), .int khasCells, .ref kpoured, .ref kfar, .ref ksides, .int (nI ksideMany), .int kwayDays, .int khasWay, .ref klines, .ref kmet, .int (nI kmetMany), .ref ksunk, .ref ktrying, .int (nI ksunkMany), .int ksending, .int kfleets, .ref ktext, .int (nI ktexts), .int kseed, .ref kline, .ref kwritten, .int (nI klineMany), .int khasWritten, .ref knode, .int (nI knodes), .int (nI konesMany), .int (nI kwithin), .int (nI ktop)])), (ktape, .inl (ky 0, 940, .inl ktapeF))] H := hP
        have hD : va_D A [(o, .inr (12, [.int kthrown, .ref ktape, .int (nI ktaped), .int (nI ksize), .int (nI klimit), .int (nI kto), .int (nI kfrom), .int kkind, .int knumber, .int ksign, .int kfault, .int kplace, .long kword, .int ktold, .ref know, .ref kread, .ref kkept, .ref ksnaps, .ref kaside, .ref kname, .ref kreadName, .ref kkeptName, .ref kisKept, .ref konces, .int (nI ksnapMany), .int khasCells, .ref kpoured, .ref kfar, .ref ksides, .int (nI ksideMany), .int kwayDays, .int khasWay, .ref klines, .ref kmet, .int (nI kmetMany), .ref ksunk, .ref ktrying, .int (nI ksunkMany), .int ksending, .int kfleets, .ref ktext, .int (nI ktexts), .int kseed, .ref kline, .ref kwritten, .int (nI klineMany), .int khasWritten, .ref knode, .int (nI knodes), .int (nI konesMany), .int (nI kwithin), .int (nI ktop)])), (ktape, .inl (ky 0, 940, .inl ktapeF))] := hD
        rcases p38 with ⟨rfl, t39⟩ | ⟨rfl, t40⟩
        · refine lv_if_ne (tgt := 21) hx hb dX12_readOneOf_12 (by decide) (fun c41 => ?_) (fun c41 => absurd c41 (by decide))
          refine lv_iload_n hx hb dX12_readOneOf_21 rfl (lv_at hl 0 rfl) ?_
          refine lv_iload_n hx hb dX12_readOneOf_22 rfl (lv_at hl 3 rfl) ?_
          refine n_icmp_le (x := k7) (y := 11) (tgt := 32) hx hb (by omega) (by omega) dX12_readOneOf_23 (by decide) (fun c42 => ?_) (fun c42 => ?_)
          · refine lv_aload_n hx hb dX12_readOneOf_32 rfl (lv_at hl 1 rfl) ?_
            refine lv_iload_n hx hb dX12_readOneOf_33 rfl (lv_at hl 0 rfl) ?_
            refine lv_iload_n hx hb dX12_readOneOf_34 rfl (lv_at hl 2 rfl) ?_
            refine lv_isub hx hb dX12_readOneOf_35 ?_
            refine r_ti (nI (k7 - 10)) (pk_sub (lf_g_oneOf10_5 bt ksize klimit kto kfrom kkind knumber ksign kword ktapeF hp k7 n11 iv_ko_1 iv_ko_2 iv_ko_3 iv_ko_4 hTM hMT j8 j9 jW hm13 c14 t39 c42)) ?_
            refine va_put (D := (dC, dI)) (ci := 12) (v := .int (nI (k7 - 10))) (ty := .int) (C := RX12) (T := TX12) (N := 52) hx hb hts hin12 tyX12 tyX12_ok nmX12 hown hK hP hD hS 0 rfl rfl 13 (by decide) (hts (.fieldLink RX12 79 "PorridgeSeaModel" "told" "I") (List.mem_of_getElem? (i := 1) rfl)) (fun _ h9 => h9) rfl (by decide +kernel) rfl rfl (Nat.le_of_ble_eq_true rfl) dX12_readOneOf_36 (fun H locs hP hD hS => ?_)
            have hP : va_P (dC, dI) vwCl [(o, .inr (12, [.int kthrown, .ref ktape, .int (nI ktaped), .int (nI ksize), .int (nI klimit), .int (nI kto), .int (nI kfrom), .int kkind, .int knumber, .int ksign, .int kfault, .int kplace, .long kword, .int (nI (k7 - 10)), .ref know, .ref kread, .ref kkept, .ref ksnaps, .ref kaside, .ref kname, .ref kreadName, .ref kkeptName, .ref kisKept, .ref konces, .int (nI ksnapMany), .int khasCells, .ref kpoured, .ref kfar, .ref ksides, .int (nI ksideMany), .int kwayDays, .int khasWay, .ref klines, .ref kmet, .int (nI kmetMany), .ref ksunk, .ref ktrying, .int (nI ksunkMany), .int ksending, .int kfleets, .ref ktext, .int (nI ktexts), .int kseed, .ref kline, .ref kwritten, .int (nI klineMany), .int khasWritten, .ref knode, .int (nI knodes), .int (nI konesMany), .int (nI kwithin), .int (nI ktop)])), (ktape, .inl (ky 0, 940, .inl ktapeF))] H := hP
            have hD : va_D A [(o, .inr (12, [.int kthrown, .ref ktape, .int (nI ktaped), .int (nI ksize), .int (nI klimit), .int (nI kto), .int (nI kfrom), .int kkind, .int knumber, .int ksign, .int kfault, .int kplace, .long kword, .int (nI (k7 - 10)), .ref know, .ref kread, .ref kkept, .ref ksnaps, .ref kaside, .ref kname, .ref kreadName, .ref kkeptName, .ref kisKept, .ref konces, .int (nI ksnapMany), .int khasCells, .ref kpoured, .ref kfar, .ref ksides, .int (nI ksideMany), .int kwayDays, .int khasWay, .ref klines, .ref kmet, .int (nI kmetMany), .ref ksunk, .ref ktrying, .int (nI ksunkMany), .int ksending, .int kfleets, .ref ktext, .int (nI ktexts), .int kseed, .ref kline, .ref kwritten, .int (nI klineMany), .int khasWritten, .ref knode, .int (nI knodes), .int (nI konesMany), .int (nI kwithin), .int (nI ktop)])), (ktape, .inl (ky 0, 940, .inl ktapeF))] := hD
            refine lv_aload_n hx hb dX12_readOneOf_39 rfl (lv_at hl 1 rfl) ?_
            refine r_call_v (wr := []) (va_runV (As := []) (rest := []) ⟨hx, hb, hml, hown, hts⟩ (c_g_go l dC dI ky H.size bt o kthrown ktape ktaped ksize klimit kto kfrom kkind knumber ksign kfault kplace kword (nI (k7 - 10)) know kread kkept ksnaps kaside kname kreadName kkeptName kisKept konces ksnapMany khasCells kpoured kfar ksides ksideMany kwayDays khasWay klines kmet kmetMany ksunk ktrying ksunkMany ksending kfleets ktext ktexts kseed kline kwritten klineMany khasWritten knode knodes konesMany kwithin ktop ktapeF (tT bt ksize klimit hp) iv_ko_0 iv_ko_1 iv_ko_2 iv_ko_3 iv_ko_4 iv_ko_5 iv_ko_6 iv_ko_7 iv_ko_8 iv_ko_9 iv_ko_10 iv_ko_11 iv_ko_12 iv_ko_13 iv_ko_14 hTM hMT.2.2.1) (cwV 0 hts gX12_readOneOf_X12_go rfl rfl rfl (by decide +kernel) ⟨(Nat.le_of_ble_eq_true rfl), (Nat.le_of_ble_eq_true rfl)⟩) (pre_UV hK hP hD [0, 1] (by decide) rfl (ci := 12) (q0 := 0) rfl rfl) rfl rfl hl.1 rfl (lv_room (Nat.le_of_ble_eq_true rfl)) dX12_readOneOf_40 ⟨(Nat.le_of_ble_eq_true rfl), (Nat.le_of_ble_eq_true rfl)⟩) hP hD hS hA [0, 1] [] rfl rfl (by decide) (by decide) (fun  u43 H locs p44 hP hD hS => ?_)
            obtain ⟨ktoG_45, kfromG_46, kkindG_47, knumberG_48, ksignG_49, kwordG_50⟩ := u43
            try dsimp only at p44
            obtain ⟨p51, p52, p53⟩ := p44
            refine W.widen (k := 0) (n := 0) (Nat.le_of_ble_eq_true rfl) (Nat.le_of_ble_eq_true rfl) ?_
            have hP : va_P (dC, dI) vwCl [(o, .inr (12, [.int kthrown, .ref ktape, .int (nI ktaped), .int (nI ksize), .int (nI klimit), .int (nI ktoG_45), .int (nI kfromG_46), .int kkindG_47, .int knumberG_48, .int ksignG_49, .int kfault, .int kplace, .long kwordG_50, .int (nI (k7 - 10)), .ref know, .ref kread, .ref kkept, .ref ksnaps, .ref kaside, .ref kname, .ref kreadName, .ref kkeptName, .ref kisKept, .ref konces, .int (nI ksnapMany), .int khasCells, .ref kpoured, .ref kfar, .ref ksides, .int (nI ksideMany), .int kwayDays, .int khasWay, .ref klines, .ref kmet, .int (nI kmetMany), .ref ksunk, .ref ktrying, .int (nI ksunkMany), .int ksending, .int kfleets, .ref ktext, .int (nI ktexts), .int kseed, .ref kline, .ref kwritten, .int (nI klineMany), .int khasWritten, .ref knode, .int (nI knodes), .int (nI konesMany), .int (nI kwithin), .int (nI ktop)])), (ktape, .inl (ky 0, 940, .inl ktapeF))] H := hP
            have hD : va_D A [(o, .inr (12, [.int kthrown, .ref ktape, .int (nI ktaped), .int (nI ksize), .int (nI klimit), .int (nI ktoG_45), .int (nI kfromG_46), .int kkindG_47, .int knumberG_48, .int ksignG_49, .int kfault, .int kplace, .long kwordG_50, .int (nI (k7 - 10)), .ref know, .ref kread, .ref kkept, .ref ksnaps, .ref kaside, .ref kname, .ref kreadName, .ref kkeptName, .ref kisKept, .ref konces, .int (nI ksnapMany), .int khasCells, .ref kpoured, .ref kfar, .ref ksides, .int (nI ksideMany), .int kwayDays, .int khasWay, .ref klines, .ref kmet, .int (nI kmetMany), .ref ksunk, .ref ktrying, .int (nI ksunkMany), .int ksending, .int kfleets, .ref ktext, .int (nI ktexts), .int kseed, .ref kline, .ref kwritten, .int (nI klineMany), .int khasWritten, .ref knode, .int (nI knodes), .int (nI konesMany), .int (nI kwithin), .int (nI ktop)])), (ktape, .inl (ky 0, 940, .inl ktapeF))] := hD
            refine lv_iconst (v := nI 1) hx hb dX12_readOneOf_43 (by decide) ?_
            rw [hQ]
            exact W.zret (v := nI 1) hx hb hr (by decide) (fun t9 ht9 hW9 => ⟨⟨nI 1, (ktoG_45, kfromG_46, kkindG_47, knumberG_48, ksignG_49, kfault, kplace, kwordG_50, nI (k7 - 10)), rfl, ⟨(lf_g_oneOf10_6 bt ksize klimit kto kfrom kkind knumber ksign kfault kplace kword ktapeF hp k7 n11 ktoG_45 kfromG_46 kkindG_47 knumberG_48 ksignG_49 kwordG_50 iv_ko_1 iv_ko_2 iv_ko_3 iv_ko_4 hTM hMT j8 j9 jW hm13 c14 t39 c42 p51 p52 p53), p51, p52⟩, by rw [ht9]; exact hP, va_K.moved hW9.alike hK, hD⟩, hS.F ht9⟩) hS.2.2 dX12_readOneOf_44
          · refine lv_aload_n hx hb dX12_readOneOf_26 rfl (lv_at hl 1 rfl) ?_
            refine lv_iconst (v := nI 1) hx hb dX12_readOneOf_27 (by decide) ?_
            refine r_call_i (wr := []) (va_runV (As := [.int (nI 1)]) (rest := []) ⟨hx, hb, hml, hown, hts⟩ (c_g_bad l dC dI ky H.size bt o kthrown ktape ktaped ksize klimit kto kfrom kkind knumber ksign kfault kplace kword ktold know kread kkept ksnaps kaside kname kreadName kkeptName kisKept konces ksnapMany khasCells kpoured kfar ksides ksideMany kwayDays khasWay klines kmet kmetMany ksunk ktrying ksunkMany ksending kfleets ktext ktexts kseed kline kwritten klineMany khasWritten knode knodes konesMany kwithin ktop ktapeF hp (nI 1) iv_ko_0 iv_ko_1 iv_ko_2 iv_ko_3 iv_ko_4 iv_ko_5 iv_ko_6 iv_ko_7 iv_ko_8 iv_ko_9 iv_ko_10 iv_ko_11 iv_ko_12 iv_ko_13 iv_ko_14 hTM hMT) (cwV 1 hts gX12_readOneOf_X12_bad rfl rfl rfl (by decide +kernel) ⟨(Nat.le_of_ble_eq_true rfl), (Nat.le_of_ble_eq_true rfl)⟩) (pre_UV hK hP hD [0, 1] (by decide) rfl (ci := 12) (q0 := 0) rfl rfl) rfl rfl hl.1 rfl (lv_room (Nat.le_of_ble_eq_true rfl)) dX12_readOneOf_28 ⟨(Nat.le_of_ble_eq_true rfl), (Nat.le_of_ble_eq_true rfl)⟩) hP hD hS hA [0, 1] [] rfl rfl (by decide) (by decide) (fun r56 u54 H locs p55 hP hD hS => ?_)
            obtain ⟨kfaultG_57, kplaceG_58⟩ := u54
            try dsimp only at p55
            obtain ⟨p59, p60, p61⟩ := p55
            refine W.widen (k := 0) (n := 0) (Nat.le_of_ble_eq_true rfl) (Nat.le_of_ble_eq_true rfl) ?_
            have hP : va_P (dC, dI) vwCl [(o, .inr (12, [.int kthrown, .ref ktape, .int (nI ktaped), .int (nI ksize), .int (nI klimit), .int (nI kto), .int (nI kfrom), .int kkind, .int knumber, .int ksign, .int kfaultG_57, .int kplaceG_58, .long kword, .int ktold, .ref know, .ref kread, .ref kkept, .ref ksnaps, .ref kaside, .ref kname, .ref kreadName, .ref kkeptName, .ref kisKept, .ref konces, .int (nI ksnapMany), .int khasCells, .ref kpoured, .ref kfar, .ref ksides, .int (nI ksideMany), .int kwayDays, .int khasWay, .ref klines, .ref kmet, .int (nI kmetMany), .ref ksunk, .ref ktrying, .int (nI ksunkMany), .int ksending, .int kfleets, .ref ktext, .int (nI ktexts), .int kseed, .ref kline, .ref kwritten, .int (nI klineMany), .int khasWritten, .ref knode, .int (nI knodes), .int (nI konesMany), .int (nI kwithin), .int (nI ktop)])), (ktape, .inl (ky 0, 940, .inl ktapeF))] H := hP
            have hD : va_D A [(o, .inr (12, [.int kthrown, .ref ktape, .int (nI ktaped), .int (nI ksize), .int (nI klimit), .int (nI kto), .int (nI kfrom), .int kkind, .int knumber, .int ksign, .int kfaultG_57, .int kplaceG_58, .long kword, .int ktold, .ref know, .ref kread, .ref kkept, .ref ksnaps, .ref kaside, .ref kname, .ref kreadName, .ref kkeptName, .ref kisKept, .ref konces, .int (nI ksnapMany), .int khasCells, .ref kpoured, .ref kfar, .ref ksides, .int (nI ksideMany), .int kwayDays, .int khasWay, .ref klines, .ref kmet, .int (nI kmetMany), .ref ksunk, .ref ktrying, .int (nI ksunkMany), .int ksending, .int kfleets, .ref ktext, .int (nI ktexts), .int kseed, .ref kline, .ref kwritten, .int (nI klineMany), .int khasWritten, .ref knode, .int (nI knodes), .int (nI konesMany), .int (nI kwithin), .int (nI ktop)])), (ktape, .inl (ky 0, 940, .inl ktapeF))] := hD
            subst p59
            rw [hQ]
            exact W.zret (v := nI 0) hx hb hr (by decide) (fun t9 ht9 hW9 => ⟨⟨nI 0, (kto, kfrom, kkind, knumber, ksign, kfaultG_57, kplaceG_58, kword, ktold), rfl, ⟨(lf_g_oneOf10_7 bt ksize klimit kto kfrom kkind knumber ksign kfault kplace kword ktold ktapeF hp k7 n11 kfaultG_57 kplaceG_58 iv_ko_1 iv_ko_2 iv_ko_3 iv_ko_4 hTM hMT j8 j9 jW hm13 c14 t39 c42 p60 p61), iv_ko_3, iv_ko_4⟩, by rw [ht9]; exact hP, va_K.moved hW9.alike hK, hD⟩, hS.F ht9⟩) hS.2.2 dX12_readOneOf_31
        · refine lv_if_ne (tgt := 21) hx hb dX12_readOneOf_12 (by decide) (fun c62 => absurd c62 (by decide)) (fun c62 => ?_)
          refine lv_iinc (v := nI (k7 + 1)) (lv' := [(3, .int (nI (k7 + 1))), (0, .ref o), (1, .int (nI 10)), (2, .int (nI 11))]) hx hb dX12_readOneOf_15 hl (k := 0) rfl (show nI k7 + nI 1 = nI (k7 + 1) from nI_add _ _) (by decide) rfl (fun ls hl => ?_)
          refine lv_goto (tgt := 2) hx hb dX12_readOneOf_18 (by decide) ?_
          exact ih12 (k7 + 1) (lf_g_oneOf10_8 bt ksize klimit kto kfrom kkind knumber ksign kword ktapeF hp k7 n11 iv_ko_1 iv_ko_2 iv_ko_3 iv_ko_4 hTM hMT j8 j9 jW hm13 c14 t40) (lf_g_oneOf10_9 bt ksize klimit kto kfrom kkind knumber ksign kword ktapeF hp k7 n11 iv_ko_1 iv_ko_2 iv_ko_3 iv_ko_4 hTM hMT j8 j9 jW hm13 c14 t40) (lf_g_oneOf10_10 bt ksize klimit kto kfrom kkind knumber ksign kword ktapeF hp k7 n11 iv_ko_1 iv_ko_2 iv_ko_3 iv_ko_4 hTM hMT j8 j9 jW hm13 c14 t40) (lf_g_oneOf10_11 bt ksize klimit kto kfrom kkind knumber ksign kword ktapeF hp k7 n11 iv_ko_1 iv_ko_2 iv_ko_3 iv_ko_4 hTM hMT j8 j9 jW hm13 c14 t40) _ _ _ hP hD hS (lv_sub hl [0, 1, 2, 3] rfl)
  exact hL10 ((12 - 10) + 1) 10 (lf_g_oneOf10_12) (lf_g_oneOf10_13) (lf_g_oneOf10_14 bt ksize klimit kto kfrom kkind knumber ksign kword ktapeF hp iv_ko_1 iv_ko_2 iv_ko_3 iv_ko_4 hTM hMT) (Nat.lt_succ_self _) _ _ _ hP hD hS (lv_sub hl [0, 1, 2, 3] rfl)
set_option maxRecDepth 20000 in
theorem lf_g_oneOf12_1 (bt : Nat → Nat) (ksize : Nat) (klimit : Nat) (kto : Nat) (kfrom : Nat) (kkind : Int32) (knumber : Int32) (ksign : Int32) (kword : Int64) (ktapeF : Nat → Int32) (hp : Nat) (k7 : Nat) (n11 : Nat) (iv_ko_1 : ksize ≤ 940) (iv_ko_2 : klimit ≤ 900) (iv_ko_3 : kto ≤ ksize) (iv_ko_4 : kfrom ≤ 940) (hTM : TM bt ktapeF) (hMT : MT bt ksize klimit hp kkind ksign kfrom kto knumber kword) (j8 : k7 ≤ 16) (j9 : 12 ≤ k7) (jW : ∀ j, 12 ≤ j → j < k7 → ¬ tW bt ksize klimit hp = j) (hm13 : 16 - k7 < n11 + 1) (c14 : 15 < k7) (c15 : k7 ≤ 15) : 12 ≤ k7 := by
  have b_kkind := ia_b kkind
  have b_knumber := ia_b knumber
  have b_ksign := ia_b ksign
  have b_kword := Int64.toInt_lt kword
  try simp only [ia_lt, ia_le, ia_eq, ia_m1, ia_0, ia_1, ne_eq, true_and, and_true, false_and, and_false, or_false, false_or, or_true, true_or, not_true_eq_false, not_false_eq_true] at *
  all_goals omega
set_option maxRecDepth 20000 in
theorem lf_g_oneOf12_2 (bt : Nat → Nat) (ksize : Nat) (klimit : Nat) (kto : Nat) (kfrom : Nat) (kkind : Int32) (knumber : Int32) (ksign : Int32) (kfault : Int32) (kplace : Int32) (kword : Int64) (ktapeF : Nat → Int32) (hp : Nat) (k7 : Nat) (n11 : Nat) (ktoG_18 : Nat) (kfromG_19 : Nat) (kkindG_20 : Int32) (knumberG_21 : Int32) (ksignG_22 : Int32) (kwordG_23 : Int64) (iv_ko_1 : ksize ≤ 940) (iv_ko_2 : klimit ≤ 900) (iv_ko_3 : kto ≤ ksize) (iv_ko_4 : kfrom ≤ 940) (hTM : TM bt ktapeF) (hMT : MT bt ksize klimit hp kkind ksign kfrom kto knumber kword) (j8 : k7 ≤ 16) (j9 : 12 ≤ k7) (jW : ∀ j, 12 ≤ j → j < k7 → ¬ tW bt ksize klimit hp = j) (hm13 : 16 - k7 < n11 + 1) (c14 : 15 < k7) (c15 : k7 ≤ 15) (p24 : ktoG_18 ≤ ksize) (p25 : kfromG_19 ≤ 940) (p26 : MT bt ksize klimit (tT bt ksize klimit hp) kkindG_20 ksignG_22 kfromG_19 ktoG_18 knumberG_21 kwordG_23) : ((nI 1) = nI 1 ∧ (isO (pOne bt ksize klimit 12 15 hp) = true ∧ MT bt ksize klimit (tT bt ksize klimit hp) kkindG_20 ksignG_22 kfromG_19 ktoG_18 knumberG_21 kwordG_23 ∧ 0 ≤ (nI (k7 - 12)).toInt ∧ (nI (k7 - 12)).toInt ≤ 3 ∧ kfault = kfault ∧ kplace = kplace)) ∨ ((nI 1) = nI 0 ∧ (isO (pOne bt ksize klimit 12 15 hp) = false ∧ kfault = nI (erA (pOne bt ksize klimit 12 15 hp)) ∧ kplace = nI (erB (pOne bt ksize klimit 12 15 hp)))) := by
  have b9 : 0 ≤ (nI (k7 - 12)).toInt ∧ (nI (k7 - 12)).toInt ≤ 3 := by
    have b_kkind := ia_b kkind
    have b_knumber := ia_b knumber
    have b_ksign := ia_b ksign
    have b_kfault := ia_b kfault
    have b_kplace := ia_b kplace
    have b_kkindG_20 := ia_b kkindG_20
    have b_knumberG_21 := ia_b knumberG_21
    have b_ksignG_22 := ia_b ksignG_22
    have b_kword := Int64.toInt_lt kword
    have b_kwordG_23 := Int64.toInt_lt kwordG_23
    try have k_0 := ia_n 1 (by first | decide | omega)
    try have k_1 := ia_n (k7 - 12) (by first | decide | omega)
    try have k_2 := ia_n 0 (by first | decide | omega)
    try have k_3 := ia_n (erA (pOne bt ksize klimit 12 15 hp)) (by first | decide | omega)
    try have k_4 := ia_n (erB (pOne bt ksize klimit 12 15 hp)) (by first | decide | omega)
    try simp only [ia_lt, ia_le, ia_eq, ia_m1, ia_0, ia_1, ne_eq, true_and, and_true, false_and, and_false, or_false, false_or, or_true, true_or, not_true_eq_false, not_false_eq_true] at *
    all_goals omega
  rw [one_o (lo := 12) (hi := 15) (by omega) (by omega)]
  exact Or.inl ⟨rfl, rfl, ‹_›, b9.1, b9.2, (by first | rfl | assumption | (subst_vars; rfl) | (subst_vars; assumption)), (by first | rfl | assumption | (subst_vars; rfl) | (subst_vars; assumption))⟩
set_option maxRecDepth 20000 in
theorem lf_g_oneOf12_3 (bt : Nat → Nat) (ksize : Nat) (klimit : Nat) (kto : Nat) (kfrom : Nat) (kkind : Int32) (knumber : Int32) (ksign : Int32) (kfault : Int32) (kplace : Int32) (kword : Int64) (ktold : Int32) (ktapeF : Nat → Int32) (hp : Nat) (k7 : Nat) (n11 : Nat) (kfaultG_30 : Int32) (kplaceG_31 : Int32) (iv_ko_1 : ksize ≤ 940) (iv_ko_2 : klimit ≤ 900) (iv_ko_3 : kto ≤ ksize) (iv_ko_4 : kfrom ≤ 940) (hTM : TM bt ktapeF) (hMT : MT bt ksize klimit hp kkind ksign kfrom kto knumber kword) (j8 : k7 ≤ 16) (j9 : 12 ≤ k7) (jW : ∀ j, 12 ≤ j → j < k7 → ¬ tW bt ksize klimit hp = j) (hm13 : 16 - k7 < n11 + 1) (c14 : 15 < k7) (c15 : 15 < k7) (p33 : kfaultG_30 = (if tK bt ksize klimit hp = 1 then nI 1 else (nI 1))) (p34 : kplaceG_31 = nI (tF bt ksize klimit hp)) : ((nI 0) = nI 1 ∧ (isO (pOne bt ksize klimit 12 15 hp) = true ∧ MT bt ksize klimit (tT bt ksize klimit hp) kkind ksign kfrom kto knumber kword ∧ 0 ≤ ktold.toInt ∧ ktold.toInt ≤ 3 ∧ kfaultG_30 = kfault ∧ kplaceG_31 = kplace)) ∨ ((nI 0) = nI 0 ∧ (isO (pOne bt ksize klimit 12 15 hp) = false ∧ kfaultG_30 = nI (erA (pOne bt ksize klimit 12 15 hp)) ∧ kplaceG_31 = nI (erB (pOne bt ksize klimit 12 15 hp)))) := by
  rw [one_e (lo := 12) (hi := 15) (fun z => jW _ z.1 (by omega) rfl)]
  subst_vars
  exact Or.inr ⟨rfl, rfl, bad1, rfl⟩
set_option maxRecDepth 20000 in
theorem lf_g_oneOf12_4 (bt : Nat → Nat) (ksize : Nat) (klimit : Nat) (kto : Nat) (kfrom : Nat) (kkind : Int32) (knumber : Int32) (ksign : Int32) (kword : Int64) (ktapeF : Nat → Int32) (hp : Nat) (k7 : Nat) (n11 : Nat) (iv_ko_1 : ksize ≤ 940) (iv_ko_2 : klimit ≤ 900) (iv_ko_3 : kto ≤ ksize) (iv_ko_4 : kfrom ≤ 940) (hTM : TM bt ktapeF) (hMT : MT bt ksize klimit hp kkind ksign kfrom kto knumber kword) (j8 : k7 ≤ 16) (j9 : 12 ≤ k7) (jW : ∀ j, 12 ≤ j → j < k7 → ¬ tW bt ksize klimit hp = j) (hm13 : 16 - k7 < n11 + 1) (c14 : k7 ≤ 15) : k7 < 31 := by
  have b_kkind := ia_b kkind
  have b_knumber := ia_b knumber
  have b_ksign := ia_b ksign
  have b_kword := Int64.toInt_lt kword
  try simp only [ia_lt, ia_le, ia_eq, ia_m1, ia_0, ia_1, ne_eq, true_and, and_true, false_and, and_false, or_false, false_or, or_true, true_or, not_true_eq_false, not_false_eq_true] at *
  all_goals omega
set_option maxRecDepth 20000 in
theorem lf_g_oneOf12_5 (bt : Nat → Nat) (ksize : Nat) (klimit : Nat) (kto : Nat) (kfrom : Nat) (kkind : Int32) (knumber : Int32) (ksign : Int32) (kword : Int64) (ktapeF : Nat → Int32) (hp : Nat) (k7 : Nat) (n11 : Nat) (iv_ko_1 : ksize ≤ 940) (iv_ko_2 : klimit ≤ 900) (iv_ko_3 : kto ≤ ksize) (iv_ko_4 : kfrom ≤ 940) (hTM : TM bt ktapeF) (hMT : MT bt ksize klimit hp kkind ksign kfrom kto knumber kword) (j8 : k7 ≤ 16) (j9 : 12 ≤ k7) (jW : ∀ j, 12 ≤ j → j < k7 → ¬ tW bt ksize klimit hp = j) (hm13 : 16 - k7 < n11 + 1) (c14 : k7 ≤ 15) (t39 : tW bt ksize klimit hp = k7) (c42 : k7 ≤ 15) : 12 ≤ k7 := by
  have b_kkind := ia_b kkind
  have b_knumber := ia_b knumber
  have b_ksign := ia_b ksign
  have b_kword := Int64.toInt_lt kword
  try simp only [ia_lt, ia_le, ia_eq, ia_m1, ia_0, ia_1, ne_eq, true_and, and_true, false_and, and_false, or_false, false_or, or_true, true_or, not_true_eq_false, not_false_eq_true] at *
  all_goals omega
set_option maxRecDepth 20000 in
theorem lf_g_oneOf12_6 (bt : Nat → Nat) (ksize : Nat) (klimit : Nat) (kto : Nat) (kfrom : Nat) (kkind : Int32) (knumber : Int32) (ksign : Int32) (kfault : Int32) (kplace : Int32) (kword : Int64) (ktapeF : Nat → Int32) (hp : Nat) (k7 : Nat) (n11 : Nat) (ktoG_45 : Nat) (kfromG_46 : Nat) (kkindG_47 : Int32) (knumberG_48 : Int32) (ksignG_49 : Int32) (kwordG_50 : Int64) (iv_ko_1 : ksize ≤ 940) (iv_ko_2 : klimit ≤ 900) (iv_ko_3 : kto ≤ ksize) (iv_ko_4 : kfrom ≤ 940) (hTM : TM bt ktapeF) (hMT : MT bt ksize klimit hp kkind ksign kfrom kto knumber kword) (j8 : k7 ≤ 16) (j9 : 12 ≤ k7) (jW : ∀ j, 12 ≤ j → j < k7 → ¬ tW bt ksize klimit hp = j) (hm13 : 16 - k7 < n11 + 1) (c14 : k7 ≤ 15) (t39 : tW bt ksize klimit hp = k7) (c42 : k7 ≤ 15) (p51 : ktoG_45 ≤ ksize) (p52 : kfromG_46 ≤ 940) (p53 : MT bt ksize klimit (tT bt ksize klimit hp) kkindG_47 ksignG_49 kfromG_46 ktoG_45 knumberG_48 kwordG_50) : ((nI 1) = nI 1 ∧ (isO (pOne bt ksize klimit 12 15 hp) = true ∧ MT bt ksize klimit (tT bt ksize klimit hp) kkindG_47 ksignG_49 kfromG_46 ktoG_45 knumberG_48 kwordG_50 ∧ 0 ≤ (nI (k7 - 12)).toInt ∧ (nI (k7 - 12)).toInt ≤ 3 ∧ kfault = kfault ∧ kplace = kplace)) ∨ ((nI 1) = nI 0 ∧ (isO (pOne bt ksize klimit 12 15 hp) = false ∧ kfault = nI (erA (pOne bt ksize klimit 12 15 hp)) ∧ kplace = nI (erB (pOne bt ksize klimit 12 15 hp)))) := by
  have b9 : 0 ≤ (nI (k7 - 12)).toInt ∧ (nI (k7 - 12)).toInt ≤ 3 := by
    have b_kkind := ia_b kkind
    have b_knumber := ia_b knumber
    have b_ksign := ia_b ksign
    have b_kfault := ia_b kfault
    have b_kplace := ia_b kplace
    have b_kkindG_47 := ia_b kkindG_47
    have b_knumberG_48 := ia_b knumberG_48
    have b_ksignG_49 := ia_b ksignG_49
    have b_kword := Int64.toInt_lt kword
    have b_kwordG_50 := Int64.toInt_lt kwordG_50
    try have k_0 := ia_n 1 (by first | decide | omega)
    try have k_1 := ia_n (k7 - 12) (by first | decide | omega)
    try have k_2 := ia_n 0 (by first | decide | omega)
    try have k_3 := ia_n (erA (pOne bt ksize klimit 12 15 hp)) (by first | decide | omega)
    try have k_4 := ia_n (erB (pOne bt ksize klimit 12 15 hp)) (by first | decide | omega)
    try simp only [ia_lt, ia_le, ia_eq, ia_m1, ia_0, ia_1, ne_eq, true_and, and_true, false_and, and_false, or_false, false_or, or_true, true_or, not_true_eq_false, not_false_eq_true] at *
    all_goals omega
  rw [one_o (lo := 12) (hi := 15) (by omega) (by omega)]
  exact Or.inl ⟨rfl, rfl, ‹_›, b9.1, b9.2, (by first | rfl | assumption | (subst_vars; rfl) | (subst_vars; assumption)), (by first | rfl | assumption | (subst_vars; rfl) | (subst_vars; assumption))⟩
set_option maxRecDepth 20000 in
theorem lf_g_oneOf12_7 (bt : Nat → Nat) (ksize : Nat) (klimit : Nat) (kto : Nat) (kfrom : Nat) (kkind : Int32) (knumber : Int32) (ksign : Int32) (kfault : Int32) (kplace : Int32) (kword : Int64) (ktold : Int32) (ktapeF : Nat → Int32) (hp : Nat) (k7 : Nat) (n11 : Nat) (kfaultG_57 : Int32) (kplaceG_58 : Int32) (iv_ko_1 : ksize ≤ 940) (iv_ko_2 : klimit ≤ 900) (iv_ko_3 : kto ≤ ksize) (iv_ko_4 : kfrom ≤ 940) (hTM : TM bt ktapeF) (hMT : MT bt ksize klimit hp kkind ksign kfrom kto knumber kword) (j8 : k7 ≤ 16) (j9 : 12 ≤ k7) (jW : ∀ j, 12 ≤ j → j < k7 → ¬ tW bt ksize klimit hp = j) (hm13 : 16 - k7 < n11 + 1) (c14 : k7 ≤ 15) (t39 : tW bt ksize klimit hp = k7) (c42 : 15 < k7) (p60 : kfaultG_57 = (if tK bt ksize klimit hp = 1 then nI 1 else (nI 1))) (p61 : kplaceG_58 = nI (tF bt ksize klimit hp)) : ((nI 0) = nI 1 ∧ (isO (pOne bt ksize klimit 12 15 hp) = true ∧ MT bt ksize klimit (tT bt ksize klimit hp) kkind ksign kfrom kto knumber kword ∧ 0 ≤ ktold.toInt ∧ ktold.toInt ≤ 3 ∧ kfaultG_57 = kfault ∧ kplaceG_58 = kplace)) ∨ ((nI 0) = nI 0 ∧ (isO (pOne bt ksize klimit 12 15 hp) = false ∧ kfaultG_57 = nI (erA (pOne bt ksize klimit 12 15 hp)) ∧ kplaceG_58 = nI (erB (pOne bt ksize klimit 12 15 hp)))) := by
  rw [one_e (lo := 12) (hi := 15) (fun z => jW _ z.1 (by omega) rfl)]
  subst_vars
  exact Or.inr ⟨rfl, rfl, bad1, rfl⟩
set_option maxRecDepth 20000 in
theorem lf_g_oneOf12_8 (bt : Nat → Nat) (ksize : Nat) (klimit : Nat) (kto : Nat) (kfrom : Nat) (kkind : Int32) (knumber : Int32) (ksign : Int32) (kword : Int64) (ktapeF : Nat → Int32) (hp : Nat) (k7 : Nat) (n11 : Nat) (iv_ko_1 : ksize ≤ 940) (iv_ko_2 : klimit ≤ 900) (iv_ko_3 : kto ≤ ksize) (iv_ko_4 : kfrom ≤ 940) (hTM : TM bt ktapeF) (hMT : MT bt ksize klimit hp kkind ksign kfrom kto knumber kword) (j8 : k7 ≤ 16) (j9 : 12 ≤ k7) (jW : ∀ j, 12 ≤ j → j < k7 → ¬ tW bt ksize klimit hp = j) (hm13 : 16 - k7 < n11 + 1) (c14 : k7 ≤ 15) (t40 : ¬ tW bt ksize klimit hp = k7) : (k7 + 1) ≤ 16 := by
  have b_kkind := ia_b kkind
  have b_knumber := ia_b knumber
  have b_ksign := ia_b ksign
  have b_kword := Int64.toInt_lt kword
  try simp only [ia_lt, ia_le, ia_eq, ia_m1, ia_0, ia_1, ne_eq, true_and, and_true, false_and, and_false, or_false, false_or, or_true, true_or, not_true_eq_false, not_false_eq_true] at *
  all_goals omega
set_option maxRecDepth 20000 in
theorem lf_g_oneOf12_9 (bt : Nat → Nat) (ksize : Nat) (klimit : Nat) (kto : Nat) (kfrom : Nat) (kkind : Int32) (knumber : Int32) (ksign : Int32) (kword : Int64) (ktapeF : Nat → Int32) (hp : Nat) (k7 : Nat) (n11 : Nat) (iv_ko_1 : ksize ≤ 940) (iv_ko_2 : klimit ≤ 900) (iv_ko_3 : kto ≤ ksize) (iv_ko_4 : kfrom ≤ 940) (hTM : TM bt ktapeF) (hMT : MT bt ksize klimit hp kkind ksign kfrom kto knumber kword) (j8 : k7 ≤ 16) (j9 : 12 ≤ k7) (jW : ∀ j, 12 ≤ j → j < k7 → ¬ tW bt ksize klimit hp = j) (hm13 : 16 - k7 < n11 + 1) (c14 : k7 ≤ 15) (t40 : ¬ tW bt ksize klimit hp = k7) : 12 ≤ (k7 + 1) := by
  have b_kkind := ia_b kkind
  have b_knumber := ia_b knumber
  have b_ksign := ia_b ksign
  have b_kword := Int64.toInt_lt kword
  try simp only [ia_lt, ia_le, ia_eq, ia_m1, ia_0, ia_1, ne_eq, true_and, and_true, false_and, and_false, or_false, false_or, or_true, true_or, not_true_eq_false, not_false_eq_true] at *
  all_goals omega
set_option maxRecDepth 20000 in
theorem lf_g_oneOf12_10 (bt : Nat → Nat) (ksize : Nat) (klimit : Nat) (kto : Nat) (kfrom : Nat) (kkind : Int32) (knumber : Int32) (ksign : Int32) (kword : Int64) (ktapeF : Nat → Int32) (hp : Nat) (k7 : Nat) (n11 : Nat) (iv_ko_1 : ksize ≤ 940) (iv_ko_2 : klimit ≤ 900) (iv_ko_3 : kto ≤ ksize) (iv_ko_4 : kfrom ≤ 940) (hTM : TM bt ktapeF) (hMT : MT bt ksize klimit hp kkind ksign kfrom kto knumber kword) (j8 : k7 ≤ 16) (j9 : 12 ≤ k7) (jW : ∀ j, 12 ≤ j → j < k7 → ¬ tW bt ksize klimit hp = j) (hm13 : 16 - k7 < n11 + 1) (c14 : k7 ≤ 15) (t40 : ¬ tW bt ksize klimit hp = k7) : ∀ j, 12 ≤ j → j < (k7 + 1) → ¬ tW bt ksize klimit hp = j := by
  intro j h1 h2
  by_cases q : j = k7
  · rw [q]; assumption
  · exact jW j h1 (by omega)
set_option maxRecDepth 20000 in
theorem lf_g_oneOf12_11 (bt : Nat → Nat) (ksize : Nat) (klimit : Nat) (kto : Nat) (kfrom : Nat) (kkind : Int32) (knumber : Int32) (ksign : Int32) (kword : Int64) (ktapeF : Nat → Int32) (hp : Nat) (k7 : Nat) (n11 : Nat) (iv_ko_1 : ksize ≤ 940) (iv_ko_2 : klimit ≤ 900) (iv_ko_3 : kto ≤ ksize) (iv_ko_4 : kfrom ≤ 940) (hTM : TM bt ktapeF) (hMT : MT bt ksize klimit hp kkind ksign kfrom kto knumber kword) (j8 : k7 ≤ 16) (j9 : 12 ≤ k7) (jW : ∀ j, 12 ≤ j → j < k7 → ¬ tW bt ksize klimit hp = j) (hm13 : 16 - k7 < n11 + 1) (c14 : k7 ≤ 15) (t40 : ¬ tW bt ksize klimit hp = k7) : 16 - (k7 + 1) < n11 := by
  have b_kkind := ia_b kkind
  have b_knumber := ia_b knumber
  have b_ksign := ia_b ksign
  have b_kword := Int64.toInt_lt kword
  try simp only [ia_lt, ia_le, ia_eq, ia_m1, ia_0, ia_1, ne_eq, true_and, and_true, false_and, and_false, or_false, false_or, or_true, true_or, not_true_eq_false, not_false_eq_true] at *
  all_goals omega
set_option maxRecDepth 20000 in
theorem lf_g_oneOf12_12   : 12 ≤ 16 := by
  try simp only [ia_lt, ia_le, ia_eq, ia_m1, ia_0, ia_1, ne_eq, true_and, and_true, false_and, and_false, or_false, false_or, or_true, true_or, not_true_eq_false, not_false_eq_true] at *
  all_goals omega
set_option maxRecDepth 20000 in
theorem lf_g_oneOf12_13   : 12 ≤ 12 := by
  try simp only [ia_lt, ia_le, ia_eq, ia_m1, ia_0, ia_1, ne_eq, true_and, and_true, false_and, and_false, or_false, false_or, or_true, true_or, not_true_eq_false, not_false_eq_true] at *
  all_goals omega
set_option maxRecDepth 20000 in
theorem lf_g_oneOf12_14 (bt : Nat → Nat) (ksize : Nat) (klimit : Nat) (kto : Nat) (kfrom : Nat) (kkind : Int32) (knumber : Int32) (ksign : Int32) (kword : Int64) (ktapeF : Nat → Int32) (hp : Nat) (iv_ko_1 : ksize ≤ 940) (iv_ko_2 : klimit ≤ 900) (iv_ko_3 : kto ≤ ksize) (iv_ko_4 : kfrom ≤ 940) (hTM : TM bt ktapeF) (hMT : MT bt ksize klimit hp kkind ksign kfrom kto knumber kword) : ∀ j, 12 ≤ j → j < 12 → ¬ tW bt ksize klimit hp = j := by
  intro j h1 h2; omega
set_option maxHeartbeats 4000000 in
set_option maxRecDepth 100000 in
theorem c_g_oneOf12 (l : Launch) (dC : Nat → ClassId) (dI : Nat → Nat → Nat) (ky : Nat → ClassId) (sz : Nat) (bt : Nat → Nat) (o : Nat) (kthrown : Int32) (ktape : Nat) (ktaped : Nat) (ksize : Nat) (klimit : Nat) (kto : Nat) (kfrom : Nat) (kkind : Int32) (knumber : Int32) (ksign : Int32) (kfault : Int32) (kplace : Int32) (kword : Int64) (ktold : Int32) (know : Nat) (kread : Nat) (kkept : Nat) (ksnaps : Nat) (kaside : Nat) (kname : Nat) (kreadName : Nat) (kkeptName : Nat) (kisKept : Nat) (konces : Nat) (ksnapMany : Nat) (khasCells : Int32) (kpoured : Nat) (kfar : Nat) (ksides : Nat) (ksideMany : Nat) (kwayDays : Int32) (khasWay : Int32) (klines : Nat) (kmet : Nat) (kmetMany : Nat) (ksunk : Nat) (ktrying : Nat) (ksunkMany : Nat) (ksending : Int32) (kfleets : Int32) (ktext : Nat) (ktexts : Nat) (kseed : Int32) (kline : Nat) (kwritten : Nat) (klineMany : Nat) (khasWritten : Int32) (knode : Nat) (knodes : Nat) (konesMany : Nat) (kwithin : Nat) (ktop : Nat) (ktapeF : Nat → Int32) (hp : Nat) (iv_ko_0 : ktaped ≤ 940) (iv_ko_1 : ksize ≤ 940) (iv_ko_2 : klimit ≤ 900) (iv_ko_3 : kto ≤ ksize) (iv_ko_4 : kfrom ≤ 940) (iv_ko_5 : ksnapMany ≤ 8) (iv_ko_6 : ksideMany ≤ 36) (iv_ko_7 : kmetMany ≤ 3) (iv_ko_8 : ksunkMany ≤ 36) (iv_ko_9 : ktexts ≤ 64) (iv_ko_10 : klineMany ≤ 40) (iv_ko_11 : knodes ≤ 60) (iv_ko_12 : konesMany ≤ 20) (iv_ko_13 : kwithin ≤ 8) (iv_ko_14 : ktop ≤ 59) (hTM : TM bt ktapeF) (hMT : MT bt ksize klimit hp kkind ksign kfrom kto knumber kword) : Met l yX12_readOneOf wsX12_readOneOf ({ frames := 3, cells := 0, slots := 0, locals := 68 }) (PcU dC dI ky [.ref o, .int (nI 12), .int (nI 15)] [(o, .inr (12, [.int kthrown, .ref ktape, .int (nI ktaped), .int (nI ksize), .int (nI klimit), .int (nI kto), .int (nI kfrom), .int kkind, .int knumber, .int ksign, .int kfault, .int kplace, .long kword, .int ktold, .ref know, .ref kread, .ref kkept, .ref ksnaps, .ref kaside, .ref kname, .ref kreadName, .ref kkeptName, .ref kisKept, .ref konces, .int (nI ksnapMany), .int khasCells, .ref kpoured, .ref kfar, .ref ksides, .int (nI ksideMany), .int kwayDays, .int khasWay, .ref klines, .ref kmet, .int (nI kmetMany), .ref ksunk, .ref ktrying, .int (nI ksunkMany), .int ksending, .int kfleets, .ref ktext, .int (nI ktexts), .int kseed, .ref kline, .ref kwritten, .int (nI klineMany), .int khasWritten, .ref knode, .int (nI knodes), .int (nI konesMany), .int (nI kwithin), .int (nI ktop)])), (ktape, .inl (ky 0, 940, .inl ktapeF))] sz) (va_Qi (fun (r : Int32) (u : Nat × Nat × Int32 × Int32 × Int32 × Int32 × Int32 × Int64 × Int32) => match u with | (ktoG, kfromG, kkindG, knumberG, ksignG, kfaultG, kplaceG, kwordG, ktoldG) => ((r = nI 1 ∧ (isO (pOne bt ksize klimit 12 15 hp) = true ∧ MT bt ksize klimit (tT bt ksize klimit hp) kkindG ksignG kfromG ktoG knumberG kwordG ∧ 0 ≤ ktoldG.toInt ∧ ktoldG.toInt ≤ 3 ∧ kfaultG = kfault ∧ kplaceG = kplace)) ∨ (r = nI 0 ∧ (isO (pOne bt ksize klimit 12 15 hp) = false ∧ kfaultG = nI (erA (pOne bt ksize klimit 12 15 hp)) ∧ kplaceG = nI (erB (pOne bt ksize klimit 12 15 hp))))) ∧ (ktoG ≤ ksize) ∧ (kfromG ≤ 940)) (BU dC dI ky (fun (u : Nat × Nat × Int32 × Int32 × Int32 × Int32 × Int32 × Int64 × Int32) => match u with | (ktoG, kfromG, kkindG, knumberG, ksignG, kfaultG, kplaceG, kwordG, ktoldG) => [(o, .inr (12, [.int kthrown, .ref ktape, .int (nI ktaped), .int (nI ksize), .int (nI klimit), .int (nI ktoG), .int (nI kfromG), .int kkindG, .int knumberG, .int ksignG, .int kfaultG, .int kplaceG, .long kwordG, .int ktoldG, .ref know, .ref kread, .ref kkept, .ref ksnaps, .ref kaside, .ref kname, .ref kreadName, .ref kkeptName, .ref kisKept, .ref konces, .int (nI ksnapMany), .int khasCells, .ref kpoured, .ref kfar, .ref ksides, .int (nI ksideMany), .int kwayDays, .int khasWay, .ref klines, .ref kmet, .int (nI kmetMany), .ref ksunk, .ref ktrying, .int (nI ksunkMany), .int ksending, .int kfleets, .ref ktext, .int (nI ktexts), .int kseed, .ref kline, .ref kwritten, .int (nI klineMany), .int khasWritten, .ref knode, .int (nI knodes), .int (nI konesMany), .int (nI kwithin), .int (nI ktop)])), (ktape, .inl (ky 0, 940, .inl ktapeF))]) (va_A [(o, .inr (12, [.int kthrown, .ref ktape, .int (nI ktaped), .int (nI ksize), .int (nI klimit), .int (nI kto), .int (nI kfrom), .int kkind, .int knumber, .int ksign, .int kfault, .int kplace, .long kword, .int ktold, .ref know, .ref kread, .ref kkept, .ref ksnaps, .ref kaside, .ref kname, .ref kreadName, .ref kkeptName, .ref kisKept, .ref konces, .int (nI ksnapMany), .int khasCells, .ref kpoured, .ref kfar, .ref ksides, .int (nI ksideMany), .int kwayDays, .int khasWay, .ref klines, .ref kmet, .int (nI kmetMany), .ref ksunk, .ref ktrying, .int (nI ksunkMany), .int ksending, .int kfleets, .ref ktext, .int (nI ktexts), .int kseed, .ref kline, .ref kwritten, .int (nI klineMany), .int khasWritten, .ref knode, .int (nI knodes), .int (nI konesMany), .int (nI kwithin), .int (nI ktop)])), (ktape, .inl (ky 0, 940, .inl ktapeF))] sz)) (va_A [(o, .inr (12, [.int kthrown, .ref ktape, .int (nI ktaped), .int (nI ksize), .int (nI klimit), .int (nI kto), .int (nI kfrom), .int kkind, .int knumber, .int ksign, .int kfault, .int kplace, .long kword, .int ktold, .ref know, .ref kread, .ref kkept, .ref ksnaps, .ref kaside, .ref kname, .ref kreadName, .ref kkeptName, .ref kisKept, .ref konces, .int (nI ksnapMany), .int khasCells, .ref kpoured, .ref kfar, .ref ksides, .int (nI ksideMany), .int kwayDays, .int khasWay, .ref klines, .ref kmet, .int (nI kmetMany), .ref ksunk, .ref ktrying, .int (nI ksunkMany), .int ksending, .int kfleets, .ref ktext, .int (nI ktexts), .int kseed, .ref kline, .ref kwritten, .int (nI klineMany), .int khasWritten, .ref knode, .int (nI knodes), .int (nI konesMany), .int (nI kwithin), .int (nI ktop)])), (ktape, .inl (ky 0, 940, .inl ktapeF))] sz)) 0 0 (va_A [(o, .inr (12, [.int kthrown, .ref ktape, .int (nI ktaped), .int (nI ksize), .int (nI klimit), .int (nI kto), .int (nI kfrom), .int kkind, .int knumber, .int ksign, .int kfault, .int kplace, .long kword, .int ktold, .ref know, .ref kread, .ref kkept, .ref ksnaps, .ref kaside, .ref kname, .ref kreadName, .ref kkeptName, .ref kisKept, .ref konces, .int (nI ksnapMany), .int khasCells, .ref kpoured, .ref kfar, .ref ksides, .int (nI ksideMany), .int kwayDays, .int khasWay, .ref klines, .ref kmet, .int (nI kmetMany), .ref ksunk, .ref ktrying, .int (nI ksunkMany), .int ksending, .int kfleets, .ref ktext, .int (nI ktexts), .int kseed, .ref kline, .ref kwritten, .int (nI klineMany), .int khasWritten, .ref knode, .int (nI knodes), .int (nI konesMany), .int (nI kwithin), .int (nI ktop)])), (ktape, .inl (ky 0, 940, .inl ktapeF))] sz) := by
  refine Met.ofW (cc := cX12_readOneOf) (maxL := 4) (ret := (some .boolean)) (by decide) rfl ?_
  intro p e s m args below meth c s₁ B hml hv
  obtain ⟨rfl, hsz, hP, hK, hD0⟩ := hv
  have hx := B.exec
  have hb := B.bytes
  have hr := B.returns
  have hts := atoms_spec (ws := wsX12_readOneOf) B.pre
  have hown : s.vm.findClass RX12 = some m.cls := findClass_of_methodNamed B.named
  have hlocks := B.notSynchronized
  have hin12 : ∀ w ∈ u_ws RX12 TX12 52, w ∈ wsX12_readOneOf := by decide +kernel
  subst hsz
  have hD := hD0.self (sz := s.heap.size)
  generalize hAe : va_A [(o, .inr (12, [.int kthrown, .ref ktape, .int (nI ktaped), .int (nI ksize), .int (nI klimit), .int (nI kto), .int (nI kfrom), .int kkind, .int knumber, .int ksign, .int kfault, .int kplace, .long kword, .int ktold, .ref know, .ref kread, .ref kkept, .ref ksnaps, .ref kaside, .ref kname, .ref kreadName, .ref kkeptName, .ref kisKept, .ref konces, .int (nI ksnapMany), .int khasCells, .ref kpoured, .ref kfar, .ref ksides, .int (nI ksideMany), .int kwayDays, .int khasWay, .ref klines, .ref kmet, .int (nI kmetMany), .ref ksunk, .ref ktrying, .int (nI ksunkMany), .int ksending, .int kfleets, .ref ktext, .int (nI ktexts), .int kseed, .ref kline, .ref kwritten, .int (nI klineMany), .int khasWritten, .ref knode, .int (nI knodes), .int (nI konesMany), .int (nI kwithin), .int (nI ktop)])), (ktape, .inl (ky 0, 940, .inl ktapeF))] s.heap.size = A at hD ⊢
  have hA : ∀ q : Nat, s.heap.size ≤ q → A q := fun q h => by rw [← hAe]; exact Or.inr h
  have hS : va_S A s.heap s.heap [] := va_S.rf
  have hl := lv_entry ([.ref o, .int (nI 12), .int (nI 15)]) (n := 4) (Nat.le_of_ble_eq_true rfl)
  rw [lg_entry_eq]
  generalize (lg_sl ([.ref o, .int (nI 12), .int (nI 15)]) ++ List.replicate (4 - (lg_sl ([.ref o, .int (nI 12), .int (nI 15)])).length) Slot.unset).toArray = ls at hl ⊢
  have hl : lv_has ls 4 [(0, .ref o), (1, .int (nI 12)), (2, .int (nI 15))] := hl
  refine q_name (fun Q hQ => ?_)
  generalize ([.ref o, .int (nI 12), .int (nI 15)] : List Value).toArray = args at hts hQ ⊢
  refine lv_iload_n hx hb dX12_readOneOf_0 rfl (lv_at hl 1 rfl) ?_
  refine lv_istore_n (lv' := [(3, .int (nI 12)), (0, .ref o), (1, .int (nI 12)), (2, .int (nI 15))]) hx hb dX12_readOneOf_1 rfl hl (by decide) rfl (fun ls hl => ?_)
  have hL10 : ∀ (n11 : Nat) (k7 : Nat), (k7 ≤ 16) → (12 ≤ k7) → (∀ j, 12 ≤ j → j < k7 → ¬ tW bt ksize klimit hp = j) → 16 - k7 < n11 → ∀ (H : Heap) (locs : List Loc) (ls : Array Slot), va_P (dC, dI) vwCl [(o, .inr (12, [.int kthrown, .ref ktape, .int (nI ktaped), .int (nI ksize), .int (nI klimit), .int (nI kto), .int (nI kfrom), .int kkind, .int knumber, .int ksign, .int kfault, .int kplace, .long kword, .int ktold, .ref know, .ref kread, .ref kkept, .ref ksnaps, .ref kaside, .ref kname, .ref kreadName, .ref kkeptName, .ref kisKept, .ref konces, .int (nI ksnapMany), .int khasCells, .ref kpoured, .ref kfar, .ref ksides, .int (nI ksideMany), .int kwayDays, .int khasWay, .ref klines, .ref kmet, .int (nI kmetMany), .ref ksunk, .ref ktrying, .int (nI ksunkMany), .int ksending, .int kfleets, .ref ktext, .int (nI ktexts), .int kseed, .ref kline, .ref kwritten, .int (nI klineMany), .int khasWritten, .ref knode, .int (nI knodes), .int (nI konesMany), .int (nI kwithin), .int (nI ktop)])), (ktape, .inl (ky 0, 940, .inl ktapeF))] H → va_D A [(o, .inr (12, [.int kthrown, .ref ktape, .int (nI ktaped), .int (nI ksize), .int (nI klimit), .int (nI kto), .int (nI kfrom), .int kkind, .int knumber, .int ksign, .int kfault, .int kplace, .long kword, .int ktold, .ref know, .ref kread, .ref kkept, .ref ksnaps, .ref kaside, .ref kname, .ref kreadName, .ref kkeptName, .ref kisKept, .ref konces, .int (nI ksnapMany), .int khasCells, .ref kpoured, .ref kfar, .ref ksides, .int (nI ksideMany), .int kwayDays, .int khasWay, .ref klines, .ref kmet, .int (nI kmetMany), .ref ksunk, .ref ktrying, .int (nI ksunkMany), .int ksending, .int kfleets, .ref ktext, .int (nI ktexts), .int kseed, .ref kline, .ref kwritten, .int (nI klineMany), .int khasWritten, .ref knode, .int (nI knodes), .int (nI konesMany), .int (nI kwithin), .int (nI ktop)])), (ktape, .inl (ky 0, 940, .inl ktapeF))] → va_S A s.heap H locs → lv_has ls 4 [(3, .int (nI k7)), (0, .ref o), (1, .int (nI 12)), (2, .int (nI 15))] → W p l e (headSpec wsX12_readOneOf ({ frames := 3, cells := 0, slots := 0, locals := 68 })).room s m args below meth c H locs 0 0 Q (F0 m 2 ls []) := by
    intro n11
    induction n11 with
    | zero => intro k7 _ _ _ h9; exact absurd h9 (Nat.not_lt_zero _)
    | succ n11 ih12 =>
      intro k7 j8 j9 jW hm13 H locs ls hP hD hS hl
      refine lv_iload_n hx hb dX12_readOneOf_2 rfl (lv_at hl 0 rfl) ?_
      refine lv_iload_n hx hb dX12_readOneOf_3 rfl (lv_at hl 3 rfl) ?_
      refine n_icmp_gt (x := k7) (y := 15) (tgt := 21) hx hb (by omega) (by omega) dX12_readOneOf_4 (by decide) (fun c14 => ?_) (fun c14 => ?_)
      · refine lv_iload_n hx hb dX12_readOneOf_21 rfl (lv_at hl 0 rfl) ?_
        refine lv_iload_n hx hb dX12_readOneOf_22 rfl (lv_at hl 3 rfl) ?_
        refine n_icmp_le (x := k7) (y := 15) (tgt := 32) hx hb (by omega) (by omega) dX12_readOneOf_23 (by decide) (fun c15 => ?_) (fun c15 => ?_)
        · refine lv_aload_n hx hb dX12_readOneOf_32 rfl (lv_at hl 1 rfl) ?_
          refine lv_iload_n hx hb dX12_readOneOf_33 rfl (lv_at hl 0 rfl) ?_
          refine lv_iload_n hx hb dX12_readOneOf_34 rfl (lv_at hl 2 rfl) ?_
          refine lv_isub hx hb dX12_readOneOf_35 ?_
          refine r_ti (nI (k7 - 12)) (pk_sub (lf_g_oneOf12_1 bt ksize klimit kto kfrom kkind knumber ksign kword ktapeF hp k7 n11 iv_ko_1 iv_ko_2 iv_ko_3 iv_ko_4 hTM hMT j8 j9 jW hm13 c14 c15)) ?_
          refine va_put (D := (dC, dI)) (ci := 12) (v := .int (nI (k7 - 12))) (ty := .int) (C := RX12) (T := TX12) (N := 52) hx hb hts hin12 tyX12 tyX12_ok nmX12 hown hK hP hD hS 0 rfl rfl 13 (by decide) (hts (.fieldLink RX12 79 "PorridgeSeaModel" "told" "I") (List.mem_of_getElem? (i := 1) rfl)) (fun _ h9 => h9) rfl (by decide +kernel) rfl rfl (Nat.le_of_ble_eq_true rfl) dX12_readOneOf_36 (fun H locs hP hD hS => ?_)
          have hP : va_P (dC, dI) vwCl [(o, .inr (12, [.int kthrown, .ref ktape, .int (nI ktaped), .int (nI ksize), .int (nI klimit), .int (nI kto), .int (nI kfrom), .int kkind, .int knumber, .int ksign, .int kfault, .int kplace, .long kword, .int (nI (k7 - 12)), .ref know, .ref kread, .ref kkept, .ref ksnaps, .ref kaside, .ref kname, .ref kreadName, .ref kkeptName, .ref kisKept, .ref konces, .int (nI ksnapMany), .int khasCells, .ref kpoured, .ref kfar, .ref ksides, .int (nI ksideMany), .int kwayDays, .int khasWay, .ref klines, .ref kmet, .int (nI kmetMany), .ref ksunk, .ref ktrying, .int (nI ksunkMany), .int ksending, .int kfleets, .ref ktext, .int (nI ktexts), .int kseed, .ref kline, .ref kwritten, .int (nI klineMany), .int khasWritten, .ref knode, .int (nI knodes), .int (nI konesMany), .int (nI kwithin), .int (nI ktop)])), (ktape, .inl (ky 0, 940, .inl ktapeF))] H := hP
          have hD : va_D A [(o, .inr (12, [.int kthrown, .ref ktape, .int (nI ktaped), .int (nI ksize), .int (nI klimit), .int (nI kto), .int (nI kfrom), .int kkind, .int knumber, .int ksign, .int kfault, .int kplace, .long kword, .int (nI (k7 - 12)), .ref know, .ref kread, .ref kkept, .ref ksnaps, .ref kaside, .ref kname, .ref kreadName, .ref kkeptName, .ref kisKept, .ref konces, .int (nI ksnapMany), .int khasCells, .ref kpoured, .ref kfar, .ref ksides, .int (nI ksideMany), .int kwayDays, .int khasWay, .ref klines, .ref kmet, .int (nI kmetMany), .ref ksunk, .ref ktrying, .int (nI ksunkMany), .int ksending, .int kfleets, .ref ktext, .int (nI ktexts), .int kseed, .ref kline, .ref kwritten, .int (nI klineMany), .int khasWritten, .ref knode, .int (nI knodes), .int (nI konesMany), .int (nI kwithin), .int (nI ktop)])), (ktape, .inl (ky 0, 940, .inl ktapeF))] := hD
          refine lv_aload_n hx hb dX12_readOneOf_39 rfl (lv_at hl 1 rfl) ?_
          refine r_call_v (wr := []) (va_runV (As := []) (rest := []) ⟨hx, hb, hml, hown, hts⟩ (c_g_go l dC dI ky H.size bt o kthrown ktape ktaped ksize klimit kto kfrom kkind knumber ksign kfault kplace kword (nI (k7 - 12)) know kread kkept ksnaps kaside kname kreadName kkeptName kisKept konces ksnapMany khasCells kpoured kfar ksides ksideMany kwayDays khasWay klines kmet kmetMany ksunk ktrying ksunkMany ksending kfleets ktext ktexts kseed kline kwritten klineMany khasWritten knode knodes konesMany kwithin ktop ktapeF (tT bt ksize klimit hp) iv_ko_0 iv_ko_1 iv_ko_2 iv_ko_3 iv_ko_4 iv_ko_5 iv_ko_6 iv_ko_7 iv_ko_8 iv_ko_9 iv_ko_10 iv_ko_11 iv_ko_12 iv_ko_13 iv_ko_14 hTM hMT.2.2.1) (cwV 0 hts gX12_readOneOf_X12_go rfl rfl rfl (by decide +kernel) ⟨(Nat.le_of_ble_eq_true rfl), (Nat.le_of_ble_eq_true rfl)⟩) (pre_UV hK hP hD [0, 1] (by decide) rfl (ci := 12) (q0 := 0) rfl rfl) rfl rfl hl.1 rfl (lv_room (Nat.le_of_ble_eq_true rfl)) dX12_readOneOf_40 ⟨(Nat.le_of_ble_eq_true rfl), (Nat.le_of_ble_eq_true rfl)⟩) hP hD hS hA [0, 1] [] rfl rfl (by decide) (by decide) (fun  u16 H locs p17 hP hD hS => ?_)
          obtain ⟨ktoG_18, kfromG_19, kkindG_20, knumberG_21, ksignG_22, kwordG_23⟩ := u16
          try dsimp only at p17
          obtain ⟨p24, p25, p26⟩ := p17
          refine W.widen (k := 0) (n := 0) (Nat.le_of_ble_eq_true rfl) (Nat.le_of_ble_eq_true rfl) ?_
          have hP : va_P (dC, dI) vwCl [(o, .inr (12, [.int kthrown, .ref ktape, .int (nI ktaped), .int (nI ksize), .int (nI klimit), .int (nI ktoG_18), .int (nI kfromG_19), .int kkindG_20, .int knumberG_21, .int ksignG_22, .int kfault, .int kplace, .long kwordG_23, .int (nI (k7 - 12)), .ref know, .ref kread, .ref kkept, .ref ksnaps, .ref kaside, .ref kname, .ref kreadName, .ref kkeptName, .ref kisKept, .ref konces, .int (nI ksnapMany), .int khasCells, .ref kpoured, .ref kfar, .ref ksides, .int (nI ksideMany), .int kwayDays, .int khasWay, .ref klines, .ref kmet, .int (nI kmetMany), .ref ksunk, .ref ktrying, .int (nI ksunkMany), .int ksending, .int kfleets, .ref ktext, .int (nI ktexts), .int kseed, .ref kline, .ref kwritten, .int (nI klineMany), .int khasWritten, .ref knode, .int (nI knodes), .int (nI konesMany), .int (nI kwithin), .int (nI ktop)])), (ktape, .inl (ky 0, 940, .inl ktapeF))] H := hP
          have hD : va_D A [(o, .inr (12, [.int kthrown, .ref ktape, .int (nI ktaped), .int (nI ksize), .int (nI klimit), .int (nI ktoG_18), .int (nI kfromG_19), .int kkindG_20, .int knumberG_21, .int ksignG_22, .int kfault, .int kplace, .long kwordG_23, .int (nI (k7 - 12)), .ref know, .ref kread, .ref kkept, .ref ksnaps, .ref kaside, .ref kname, .ref kreadName, .ref kkeptName, .ref kisKept, .ref konces, .int (nI ksnapMany), .int khasCells, .ref kpoured, .ref kfar, .ref ksides, .int (nI ksideMany), .int kwayDays, .int khasWay, .ref klines, .ref kmet, .int (nI kmetMany), .ref ksunk, .ref ktrying, .int (nI ksunkMany), .int ksending, .int kfleets, .ref ktext, .int (nI ktexts), .int kseed, .ref kline, .ref kwritten, .int (nI klineMany), .int khasWritten, .ref knode, .int (nI knodes), .int (nI konesMany), .int (nI kwithin), .int (nI ktop)])), (ktape, .inl (ky 0, 940, .inl ktapeF))] := hD
          refine lv_iconst (v := nI 1) hx hb dX12_readOneOf_43 (by decide) ?_
          rw [hQ]
          exact W.zret (v := nI 1) hx hb hr (by decide) (fun t9 ht9 hW9 => ⟨⟨nI 1, (ktoG_18, kfromG_19, kkindG_20, knumberG_21, ksignG_22, kfault, kplace, kwordG_23, nI (k7 - 12)), rfl, ⟨(lf_g_oneOf12_2 bt ksize klimit kto kfrom kkind knumber ksign kfault kplace kword ktapeF hp k7 n11 ktoG_18 kfromG_19 kkindG_20 knumberG_21 ksignG_22 kwordG_23 iv_ko_1 iv_ko_2 iv_ko_3 iv_ko_4 hTM hMT j8 j9 jW hm13 c14 c15 p24 p25 p26), p24, p25⟩, by rw [ht9]; exact hP, va_K.moved hW9.alike hK, hD⟩, hS.F ht9⟩) hS.2.2 dX12_readOneOf_44
        · refine lv_aload_n hx hb dX12_readOneOf_26 rfl (lv_at hl 1 rfl) ?_
          refine lv_iconst (v := nI 1) hx hb dX12_readOneOf_27 (by decide) ?_
          refine r_call_i (wr := []) (va_runV (As := [.int (nI 1)]) (rest := []) ⟨hx, hb, hml, hown, hts⟩ (c_g_bad l dC dI ky H.size bt o kthrown ktape ktaped ksize klimit kto kfrom kkind knumber ksign kfault kplace kword ktold know kread kkept ksnaps kaside kname kreadName kkeptName kisKept konces ksnapMany khasCells kpoured kfar ksides ksideMany kwayDays khasWay klines kmet kmetMany ksunk ktrying ksunkMany ksending kfleets ktext ktexts kseed kline kwritten klineMany khasWritten knode knodes konesMany kwithin ktop ktapeF hp (nI 1) iv_ko_0 iv_ko_1 iv_ko_2 iv_ko_3 iv_ko_4 iv_ko_5 iv_ko_6 iv_ko_7 iv_ko_8 iv_ko_9 iv_ko_10 iv_ko_11 iv_ko_12 iv_ko_13 iv_ko_14 hTM hMT) (cwV 1 hts gX12_readOneOf_X12_bad rfl rfl rfl (by decide +kernel) ⟨(Nat.le_of_ble_eq_true rfl), (Nat.le_of_ble_eq_true rfl)⟩) (pre_UV hK hP hD [0, 1] (by decide) rfl (ci := 12) (q0 := 0) rfl rfl) rfl rfl hl.1 rfl (lv_room (Nat.le_of_ble_eq_true rfl)) dX12_readOneOf_28 ⟨(Nat.le_of_ble_eq_true rfl), (Nat.le_of_ble_eq_true rfl)⟩) hP hD hS hA [0, 1] [] rfl rfl (by decide) (by decide) (fun r29 u27 H locs p28 hP hD hS => ?_)
          obtain ⟨kfaultG_30, kplaceG_31⟩ := u27
          try dsimp only at p28
          obtain ⟨p32, p33, p34⟩ := p28
          refine W.widen (k := 0) (n := 0) (Nat.le_of_ble_eq_true rfl) (Nat.le_of_ble_eq_true rfl) ?_
          have hP : va_P (dC, dI) vwCl [(o, .inr (12, [.int kthrown, .ref ktape, .int (nI ktaped), .int (nI ksize), .int (nI klimit), .int (nI kto), .int (nI kfrom), .int kkind, .int knumber, .int ksign, .int kfaultG_30, .int kplaceG_31, .long kword, .int ktold, .ref know, .ref kread, .ref kkept, .ref ksnaps, .ref kaside, .ref kname, .ref kreadName, .ref kkeptName, .ref kisKept, .ref konces, .int (nI ksnapMany), .int khasCells, .ref kpoured, .ref kfar, .ref ksides, .int (nI ksideMany), .int kwayDays, .int khasWay, .ref klines, .ref kmet, .int (nI kmetMany), .ref ksunk, .ref ktrying, .int (nI ksunkMany), .int ksending, .int kfleets, .ref ktext, .int (nI ktexts), .int kseed, .ref kline, .ref kwritten, .int (nI klineMany), .int khasWritten, .ref knode, .int (nI knodes), .int (nI konesMany), .int (nI kwithin), .int (nI ktop)])), (ktape, .inl (ky 0, 940, .inl ktapeF))] H := hP
          have hD : va_D A [(o, .inr (12, [.int kthrown, .ref ktape, .int (nI ktaped), .int (nI ksize), .int (nI klimit), .int (nI kto), .int (nI kfrom), .int kkind, .int knumber, .int ksign, .int kfaultG_30, .int kplaceG_31, .long kword, .int ktold, .ref know, .ref kread, .ref kkept, .ref ksnaps, .ref kaside, .ref kname, .ref kreadName, .ref kkeptName, .ref kisKept, .ref konces, .int (nI ksnapMany), .int khasCells, .ref kpoured, .ref kfar, .ref ksides, .int (nI ksideMany), .int kwayDays, .int khasWay, .ref klines, .ref kmet, .int (nI kmetMany), .ref ksunk, .ref ktrying, .int (nI ksunkMany), .int ksending, .int kfleets, .ref ktext, .int (nI ktexts), .int kseed, .ref kline, .ref kwritten, .int (nI klineMany), .int khasWritten, .ref knode, .int (nI knodes), .int (nI konesMany), .int (nI kwithin), .int (nI ktop)])), (ktape, .inl (ky 0, 940, .inl ktapeF))] := hD
          subst p32
          rw [hQ]
          exact W.zret (v := nI 0) hx hb hr (by decide) (fun t9 ht9 hW9 => ⟨⟨nI 0, (kto, kfrom, kkind, knumber, ksign, kfaultG_30, kplaceG_31, kword, ktold), rfl, ⟨(lf_g_oneOf12_3 bt ksize klimit kto kfrom kkind knumber ksign kfault kplace kword ktold ktapeF hp k7 n11 kfaultG_30 kplaceG_31 iv_ko_1 iv_ko_2 iv_ko_3 iv_ko_4 hTM hMT j8 j9 jW hm13 c14 c15 p33 p34), iv_ko_3, iv_ko_4⟩, by rw [ht9]; exact hP, va_K.moved hW9.alike hK, hD⟩, hS.F ht9⟩) hS.2.2 dX12_readOneOf_31
      · refine lv_aload_n hx hb dX12_readOneOf_7 rfl (lv_at hl 1 rfl) ?_
        refine lv_iload_n hx hb dX12_readOneOf_8 rfl (lv_at hl 0 rfl) ?_
        refine r_call_i (wr := []) (va_runV (As := [.int (nI k7)]) (rest := []) ⟨hx, hb, hml, hown, hts⟩ (c_g_isWordN l dC dI ky H.size bt o kthrown ktape ktaped ksize klimit kto kfrom kkind knumber ksign kfault kplace kword ktold know kread kkept ksnaps kaside kname kreadName kkeptName kisKept konces ksnapMany khasCells kpoured kfar ksides ksideMany kwayDays khasWay klines kmet kmetMany ksunk ktrying ksunkMany ksending kfleets ktext ktexts kseed kline kwritten klineMany khasWritten knode knodes konesMany kwithin ktop ktapeF hp k7 iv_ko_0 iv_ko_1 iv_ko_2 iv_ko_3 iv_ko_4 iv_ko_5 iv_ko_6 iv_ko_7 iv_ko_8 iv_ko_9 iv_ko_10 iv_ko_11 iv_ko_12 iv_ko_13 iv_ko_14 hTM hMT (lf_g_oneOf12_4 bt ksize klimit kto kfrom kkind knumber ksign kword ktapeF hp k7 n11 iv_ko_1 iv_ko_2 iv_ko_3 iv_ko_4 hTM hMT j8 j9 jW hm13 c14)) (cwV 1 hts gX12_readOneOf_X12_isWord rfl rfl rfl (by decide +kernel) ⟨(Nat.le_of_ble_eq_true rfl), (Nat.le_of_ble_eq_true rfl)⟩) (pre_UV hK hP hD [0, 1] (by decide) rfl (ci := 12) (q0 := 0) rfl rfl) rfl rfl hl.1 rfl (lv_room (Nat.le_of_ble_eq_true rfl)) dX12_readOneOf_9 ⟨(Nat.le_of_ble_eq_true rfl), (Nat.le_of_ble_eq_true rfl)⟩) hP hD hS hA [0, 1] [] rfl rfl (by decide) (by decide) (fun r37 u35 H locs p36 hP hD hS => ?_)
        try dsimp only at p36
        have p38 := p36
        refine W.widen (k := 0) (n := 0) (Nat.le_of_ble_eq_true rfl) (Nat.le_of_ble_eq_true rfl) ?_
        have hP : va_P (dC, dI) vwCl [(o, .inr (12, [.int kthrown, .ref ktape, .int (nI ktaped), .int (nI ksize), .int (nI klimit), .int (nI kto), .int (nI kfrom), .int kkind, .int knumber, .int ksign, .int kfault, .int kplace, .long kword, .int ktold, .ref know, .ref kread, .ref kkept, .ref ksnaps, .ref kaside, .ref kname, .ref kreadName, .ref kkeptName, .ref kisKept, .ref konces, .int (nI ksnapMany), .int khasCells, .ref kpoured, .ref kfar, .ref ksides, .int (nI ksideMany), .int kwayDays, .int khasWay, .ref klines, .ref kmet, .int (nI kmetMany), .ref ksunk, .ref ktrying, .int (nI ksunkMany), .int ksending, .int kfleets, .ref ktext, .int (nI ktexts), .int kseed, .ref kline, .ref kwritten, .int (nI klineMany), .int khasWritten, .ref knode, .int (nI knodes), .int (nI konesMany), .int (nI kwithin), .int (nI ktop)])), (ktape, .inl (ky 0, 940, .inl ktapeF))] H := hP
        have hD : va_D A [(o, .inr (12, [.int kthrown, .ref ktape, .int (nI ktaped), .int (nI ksize), .int (nI klimit), .int (nI kto), .int (nI kfrom), .int kkind, .int knumber, .int ksign, .int kfault, .int kplace, .long kword, .int ktold, .ref know, .ref kread, .ref kkept, .ref ksnaps, .ref kaside, .ref kname, .ref kreadName, .ref kkeptName, .ref kisKept, .ref konces, .int (nI ksnapMany), .int khasCells, .ref kpoured, .ref kfar, .ref ksides, .int (nI ksideMany), .int kwayDays, .int khasWay, .ref klines, .ref kmet, .int (nI kmetMany), .ref ksunk, .ref ktrying, .int (nI ksunkMany), .int ksending, .int kfleets, .ref ktext, .int (nI ktexts), .int kseed, .ref kline, .ref kwritten, .int (nI klineMany), .int khasWritten, .ref knode, .int (nI knodes), .int (nI konesMany), .int (nI kwithin), .int (nI ktop)])), (ktape, .inl (ky 0, 940, .inl ktapeF))] := hD
        rcases p38 with ⟨rfl, t39⟩ | ⟨rfl, t40⟩
        · refine lv_if_ne (tgt := 21) hx hb dX12_readOneOf_12 (by decide) (fun c41 => ?_) (fun c41 => absurd c41 (by decide))
          refine lv_iload_n hx hb dX12_readOneOf_21 rfl (lv_at hl 0 rfl) ?_
          refine lv_iload_n hx hb dX12_readOneOf_22 rfl (lv_at hl 3 rfl) ?_
          refine n_icmp_le (x := k7) (y := 15) (tgt := 32) hx hb (by omega) (by omega) dX12_readOneOf_23 (by decide) (fun c42 => ?_) (fun c42 => ?_)
          · refine lv_aload_n hx hb dX12_readOneOf_32 rfl (lv_at hl 1 rfl) ?_
            refine lv_iload_n hx hb dX12_readOneOf_33 rfl (lv_at hl 0 rfl) ?_
            refine lv_iload_n hx hb dX12_readOneOf_34 rfl (lv_at hl 2 rfl) ?_
            refine lv_isub hx hb dX12_readOneOf_35 ?_
            refine r_ti (nI (k7 - 12)) (pk_sub (lf_g_oneOf12_5 bt ksize klimit kto kfrom kkind knumber ksign kword ktapeF hp k7 n11 iv_ko_1 iv_ko_2 iv_ko_3 iv_ko_4 hTM hMT j8 j9 jW hm13 c14 t39 c42)) ?_
            refine va_put (D := (dC, dI)) (ci := 12) (v := .int (nI (k7 - 12))) (ty := .int) (C := RX12) (T := TX12) (N := 52) hx hb hts hin12 tyX12 tyX12_ok nmX12 hown hK hP hD hS 0 rfl rfl 13 (by decide) (hts (.fieldLink RX12 79 "PorridgeSeaModel" "told" "I") (List.mem_of_getElem? (i := 1) rfl)) (fun _ h9 => h9) rfl (by decide +kernel) rfl rfl (Nat.le_of_ble_eq_true rfl) dX12_readOneOf_36 (fun H locs hP hD hS => ?_)
            have hP : va_P (dC, dI) vwCl [(o, .inr (12, [.int kthrown, .ref ktape, .int (nI ktaped), .int (nI ksize), .int (nI klimit), .int (nI kto), .int (nI kfrom), .int kkind, .int knumber, .int ksign, .int kfault, .int kplace, .long kword, .int (nI (k7 - 12)), .ref know, .ref kread, .ref kkept, .ref ksnaps, .ref kaside, .ref kname, .ref kreadName, .ref kkeptName, .ref kisKept, .ref konces, .int (nI ksnapMany), .int khasCells, .ref kpoured, .ref kfar, .ref ksides, .int (nI ksideMany), .int kwayDays, .int khasWay, .ref klines, .ref kmet, .int (nI kmetMany), .ref ksunk, .ref ktrying, .int (nI ksunkMany), .int ksending, .int kfleets, .ref ktext, .int (nI ktexts), .int kseed, .ref kline, .ref kwritten, .int (nI klineMany), .int khasWritten, .ref knode, .int (nI knodes), .int (nI konesMany), .int (nI kwithin), .int (nI ktop)])), (ktape, .inl (ky 0, 940, .inl ktapeF))] H := hP
            have hD : va_D A [(o, .inr (12, [.int kthrown, .ref ktape, .int (nI ktaped), .int (nI ksize), .int (nI klimit), .int (nI kto), .int (nI kfrom), .int kkind, .int knumber, .int ksign, .int kfault, .int kplace, .long kword, .int (nI (k7 - 12)), .ref know, .ref kread, .ref kkept, .ref ksnaps, .ref kaside, .ref kname, .ref kreadName, .ref kkeptName, .ref kisKept, .ref konces, .int (nI ksnapMany), .int khasCells, .ref kpoured, .ref kfar, .ref ksides, .int (nI ksideMany), .int kwayDays, .int khasWay, .ref klines, .ref kmet, .int (nI kmetMany), .ref ksunk, .ref ktrying, .int (nI ksunkMany), .int ksending, .int kfleets, .ref ktext, .int (nI ktexts), .int kseed, .ref kline, .ref kwritten, .int (nI klineMany), .int khasWritten, .ref knode, .int (nI knodes), .int (nI konesMany), .int (nI kwithin), .int (nI ktop)])), (ktape, .inl (ky 0, 940, .inl ktapeF))] := hD
            refine lv_aload_n hx hb dX12_readOneOf_39 rfl (lv_at hl 1 rfl) ?_
            refine r_call_v (wr := []) (va_runV (As := []) (rest := []) ⟨hx, hb, hml, hown, hts⟩ (c_g_go l dC dI ky H.size bt o kthrown ktape ktaped ksize klimit kto kfrom kkind knumber ksign kfault kplace kword (nI (k7 - 12)) know kread kkept ksnaps kaside kname kreadName kkeptName kisKept konces ksnapMany khasCells kpoured kfar ksides ksideMany kwayDays khasWay klines kmet kmetMany ksunk ktrying ksunkMany ksending kfleets ktext ktexts kseed kline kwritten klineMany khasWritten knode knodes konesMany kwithin ktop ktapeF (tT bt ksize klimit hp) iv_ko_0 iv_ko_1 iv_ko_2 iv_ko_3 iv_ko_4 iv_ko_5 iv_ko_6 iv_ko_7 iv_ko_8 iv_ko_9 iv_ko_10 iv_ko_11 iv_ko_12 iv_ko_13 iv_ko_14 hTM hMT.2.2.1) (cwV 0 hts gX12_readOneOf_X12_go rfl rfl rfl (by decide +kernel) ⟨(Nat.le_of_ble_eq_true rfl), (Nat.le_of_ble_eq_true rfl)⟩) (pre_UV hK hP hD [0, 1] (by decide) rfl (ci := 12) (q0 := 0) rfl rfl) rfl rfl hl.1 rfl (lv_room (Nat.le_of_ble_eq_true rfl)) dX12_readOneOf_40 ⟨(Nat.le_of_ble_eq_true rfl), (Nat.le_of_ble_eq_true rfl)⟩) hP hD hS hA [0, 1] [] rfl rfl (by decide) (by decide) (fun  u43 H locs p44 hP hD hS => ?_)
            obtain ⟨ktoG_45, kfromG_46, kkindG_47, knumberG_48, ksignG_49, kwordG_50⟩ := u43
            try dsimp only at p44
            obtain ⟨p51, p52, p53⟩ := p44
            refine W.widen (k := 0) (n := 0) (Nat.le_of_ble_eq_true rfl) (Nat.le_of_ble_eq_true rfl) ?_
            have hP : va_P (dC, dI) vwCl [(o, .inr (12, [.int kthrown, .ref ktape, .int (nI ktaped), .int (nI ksize), .int (nI klimit), .int (nI ktoG_45), .int (nI kfromG_46), .int kkindG_47, .int knumberG_48, .int ksignG_49, .int kfault, .int kplace, .long kwordG_50, .int (nI (k7 - 12)), .ref know, .ref kread, .ref kkept, .ref ksnaps, .ref kaside, .ref kname, .ref kreadName, .ref kkeptName, .ref kisKept, .ref konces, .int (nI ksnapMany), .int khasCells, .ref kpoured, .ref kfar, .ref ksides, .int (nI ksideMany), .int kwayDays, .int khasWay, .ref klines, .ref kmet, .int (nI kmetMany), .ref ksunk, .ref ktrying, .int (nI ksunkMany), .int ksending, .int kfleets, .ref ktext, .int (nI ktexts), .int kseed, .ref kline, .ref kwritten, .int (nI klineMany), .int khasWritten, .ref knode, .int (nI knodes), .int (nI konesMany), .int (nI kwithin), .int (nI ktop)])), (ktape, .inl (ky 0, 940, .inl ktapeF))] H := hP
            have hD : va_D A [(o, .inr (12, [.int kthrown, .ref ktape, .int (nI ktaped), .int (nI ksize), .int (nI klimit), .int (nI ktoG_45), .int (nI kfromG_46), .int kkindG_47, .int knumberG_48, .int ksignG_49, .int kfault, .int kplace, .long kwordG_50, .int (nI (k7 - 12)), .ref know, .ref kread, .ref kkept, .ref ksnaps, .ref kaside, .ref kname, .ref kreadName, .ref kkeptName, .ref kisKept, .ref konces, .int (nI ksnapMany), .int khasCells, .ref kpoured, .ref kfar, .ref ksides, .int (nI ksideMany), .int kwayDays, .int khasWay, .ref klines, .ref kmet, .int (nI kmetMany), .ref ksunk, .ref ktrying, .int (nI ksunkMany), .int ksending, .int kfleets, .ref ktext, .int (nI ktexts), .int kseed, .ref kline, .ref kwritten, .int (nI klineMany), .int khasWritten, .ref knode, .int (nI knodes), .int (nI konesMany), .int (nI kwithin), .int (nI ktop)])), (ktape, .inl (ky 0, 940, .inl ktapeF))] := hD
            refine lv_iconst (v := nI 1) hx hb dX12_readOneOf_43 (by decide) ?_
            rw [hQ]
            exact W.zret (v := nI 1) hx hb hr (by decide) (fun t9 ht9 hW9 => ⟨⟨nI 1, (ktoG_45, kfromG_46, kkindG_47, knumberG_48, ksignG_49, kfault, kplace, kwordG_50, nI (k7 - 12)), rfl, ⟨(lf_g_oneOf12_6 bt ksize klimit kto kfrom kkind knumber ksign kfault kplace kword ktapeF hp k7 n11 ktoG_45 kfromG_46 kkindG_47 knumberG_48 ksignG_49 kwordG_50 iv_ko_1 iv_ko_2 iv_ko_3 iv_ko_4 hTM hMT j8 j9 jW hm13 c14 t39 c42 p51 p52 p53), p51, p52⟩, by rw [ht9]; exact hP, va_K.moved hW9.alike hK, hD⟩, hS.F ht9⟩) hS.2.2 dX12_readOneOf_44
          · refine lv_aload_n hx hb dX12_readOneOf_26 rfl (lv_at hl 1 rfl) ?_
            refine lv_iconst (v := nI 1) hx hb dX12_readOneOf_27 (by decide) ?_
            refine r_call_i (wr := []) (va_runV (As := [.int (nI 1)]) (rest := []) ⟨hx, hb, hml, hown, hts⟩ (c_g_bad l dC dI ky H.size bt o kthrown ktape ktaped ksize klimit kto kfrom kkind knumber ksign kfault kplace kword ktold know kread kkept ksnaps kaside kname kreadName kkeptName kisKept konces ksnapMany khasCells kpoured kfar ksides ksideMany kwayDays khasWay klines kmet kmetMany ksunk ktrying ksunkMany ksending kfleets ktext ktexts kseed kline kwritten klineMany khasWritten knode knodes konesMany kwithin ktop ktapeF hp (nI 1) iv_ko_0 iv_ko_1 iv_ko_2 iv_ko_3 iv_ko_4 iv_ko_5 iv_ko_6 iv_ko_7 iv_ko_8 iv_ko_9 iv_ko_10 iv_ko_11 iv_ko_12 iv_ko_13 iv_ko_14 hTM hMT) (cwV 1 hts gX12_readOneOf_X12_bad rfl rfl rfl (by decide +kernel) ⟨(Nat.le_of_ble_eq_true rfl), (Nat.le_of_ble_eq_true rfl)⟩) (pre_UV hK hP hD [0, 1] (by decide) rfl (ci := 12) (q0 := 0) rfl rfl) rfl rfl hl.1 rfl (lv_room (Nat.le_of_ble_eq_true rfl)) dX12_readOneOf_28 ⟨(Nat.le_of_ble_eq_true rfl), (Nat.le_of_ble_eq_true rfl)⟩) hP hD hS hA [0, 1] [] rfl rfl (by decide) (by decide) (fun r56 u54 H locs p55 hP hD hS => ?_)
            obtain ⟨kfaultG_57, kplaceG_58⟩ := u54
            try dsimp only at p55
            obtain ⟨p59, p60, p61⟩ := p55
            refine W.widen (k := 0) (n := 0) (Nat.le_of_ble_eq_true rfl) (Nat.le_of_ble_eq_true rfl) ?_
            have hP : va_P (dC, dI) vwCl [(o, .inr (12, [.int kthrown, .ref ktape, .int (nI ktaped), .int (nI ksize), .int (nI klimit), .int (nI kto), .int (nI kfrom), .int kkind, .int knumber, .int ksign, .int kfaultG_57, .int kplaceG_58, .long kword, .int ktold, .ref know, .ref kread, .ref kkept, .ref ksnaps, .ref kaside, .ref kname, .ref kreadName, .ref kkeptName, .ref kisKept, .ref konces, .int (nI ksnapMany), .int khasCells, .ref kpoured, .ref kfar, .ref ksides, .int (nI ksideMany), .int kwayDays, .int khasWay, .ref klines, .ref kmet, .int (nI kmetMany), .ref ksunk, .ref ktrying, .int (nI ksunkMany), .int ksending, .int kfleets, .ref ktext, .int (nI ktexts), .int kseed, .ref kline, .ref kwritten, .int (nI klineMany), .int khasWritten, .ref knode, .int (nI knodes), .int (nI konesMany), .int (nI kwithin), .int (nI ktop)])), (ktape, .inl (ky 0, 940, .inl ktapeF))] H := hP
            have hD : va_D A [(o, .inr (12, [.int kthrown, .ref ktape, .int (nI ktaped), .int (nI ksize), .int (nI klimit), .int (nI kto), .int (nI kfrom), .int kkind, .int knumber, .int ksign, .int kfaultG_57, .int kplaceG_58, .long kword, .int ktold, .ref know, .ref kread, .ref kkept, .ref ksnaps, .ref kaside, .ref kname, .ref kreadName, .ref kkeptName, .ref kisKept, .ref konces, .int (nI ksnapMany), .int khasCells, .ref kpoured, .ref kfar, .ref ksides, .int (nI ksideMany), .int kwayDays, .int khasWay, .ref klines, .ref kmet, .int (nI kmetMany), .ref ksunk, .ref ktrying, .int (nI ksunkMany), .int ksending, .int kfleets, .ref ktext, .int (nI ktexts), .int kseed, .ref kline, .ref kwritten, .int (nI klineMany), .int khasWritten, .ref knode, .int (nI knodes), .int (nI konesMany), .int (nI kwithin), .int (nI ktop)])), (ktape, .inl (ky 0, 940, .inl ktapeF))] := hD
            subst p59
            rw [hQ]
            exact W.zret (v := nI 0) hx hb hr (by decide) (fun t9 ht9 hW9 => ⟨⟨nI 0, (kto, kfrom, kkind, knumber, ksign, kfaultG_57, kplaceG_58, kword, ktold), rfl, ⟨(lf_g_oneOf12_7 bt ksize klimit kto kfrom kkind knumber ksign kfault kplace kword ktold ktapeF hp k7 n11 kfaultG_57 kplaceG_58 iv_ko_1 iv_ko_2 iv_ko_3 iv_ko_4 hTM hMT j8 j9 jW hm13 c14 t39 c42 p60 p61), iv_ko_3, iv_ko_4⟩, by rw [ht9]; exact hP, va_K.moved hW9.alike hK, hD⟩, hS.F ht9⟩) hS.2.2 dX12_readOneOf_31
        · refine lv_if_ne (tgt := 21) hx hb dX12_readOneOf_12 (by decide) (fun c62 => absurd c62 (by decide)) (fun c62 => ?_)
          refine lv_iinc (v := nI (k7 + 1)) (lv' := [(3, .int (nI (k7 + 1))), (0, .ref o), (1, .int (nI 12)), (2, .int (nI 15))]) hx hb dX12_readOneOf_15 hl (k := 0) rfl (show nI k7 + nI 1 = nI (k7 + 1) from nI_add _ _) (by decide) rfl (fun ls hl => ?_)
          refine lv_goto (tgt := 2) hx hb dX12_readOneOf_18 (by decide) ?_
          exact ih12 (k7 + 1) (lf_g_oneOf12_8 bt ksize klimit kto kfrom kkind knumber ksign kword ktapeF hp k7 n11 iv_ko_1 iv_ko_2 iv_ko_3 iv_ko_4 hTM hMT j8 j9 jW hm13 c14 t40) (lf_g_oneOf12_9 bt ksize klimit kto kfrom kkind knumber ksign kword ktapeF hp k7 n11 iv_ko_1 iv_ko_2 iv_ko_3 iv_ko_4 hTM hMT j8 j9 jW hm13 c14 t40) (lf_g_oneOf12_10 bt ksize klimit kto kfrom kkind knumber ksign kword ktapeF hp k7 n11 iv_ko_1 iv_ko_2 iv_ko_3 iv_ko_4 hTM hMT j8 j9 jW hm13 c14 t40) (lf_g_oneOf12_11 bt ksize klimit kto kfrom kkind knumber ksign kword ktapeF hp k7 n11 iv_ko_1 iv_ko_2 iv_ko_3 iv_ko_4 hTM hMT j8 j9 jW hm13 c14 t40) _ _ _ hP hD hS (lv_sub hl [0, 1, 2, 3] rfl)
  exact hL10 ((16 - 12) + 1) 12 (lf_g_oneOf12_12) (lf_g_oneOf12_13) (lf_g_oneOf12_14 bt ksize klimit kto kfrom kkind knumber ksign kword ktapeF hp iv_ko_1 iv_ko_2 iv_ko_3 iv_ko_4 hTM hMT) (Nat.lt_succ_self _) _ _ _ hP hD hS (lv_sub hl [0, 1, 2, 3] rfl)
set_option maxRecDepth 20000 in
theorem lf_g_readStir_1 (aq : Nat) (ha : aq ≤ 156) : (aq + 1) < 160 := by
  try simp only [ia_lt, ia_le, ia_eq, ia_m1, ia_0, ia_1, ne_eq, true_and, and_true, false_and, and_false, or_false, false_or, or_true, true_or, not_true_eq_false, not_false_eq_true] at *
  all_goals omega
set_option maxRecDepth 20000 in
theorem lf_g_readStir_2   : 0 ≤ 10 := by
  try simp only [ia_lt, ia_le, ia_eq, ia_m1, ia_0, ia_1, ne_eq, true_and, and_true, false_and, and_false, or_false, false_or, or_true, true_or, not_true_eq_false, not_false_eq_true] at *
  all_goals omega
set_option maxRecDepth 20000 in
theorem lf_g_readStir_3   : 5 ≤ 1000 := by
  try simp only [ia_lt, ia_le, ia_eq, ia_m1, ia_0, ia_1, ne_eq, true_and, and_true, false_and, and_false, or_false, false_or, or_true, true_or, not_true_eq_false, not_false_eq_true] at *
  all_goals omega
set_option maxRecDepth 20000 in
theorem lf_g_readStir_4 (klineF : Nat → Int32) (aq : Nat) (ktoldG_12 : Int32) (klineG_28 : Nat → Int32) (ha : aq ≤ 156) (t18 : 0 ≤ ktoldG_12.toInt) (t19 : ktoldG_12.toInt ≤ 1) (p30 : klineG_28 = upd klineF (aq + 1) ktoldG_12) : (aq + 2) < 160 := by
  have b_ktoldG_12 := ia_b ktoldG_12
  try simp only [ia_lt, ia_le, ia_eq, ia_m1, ia_0, ia_1, ne_eq, true_and, and_true, false_and, and_false, or_false, false_or, or_true, true_or, not_true_eq_false, not_false_eq_true] at *
  all_goals omega
set_option maxRecDepth 20000 in
theorem lf_g_readStir_5 (bt : Nat → Nat) (ksize : Nat) (klimit : Nat) (kto : Nat) (kfrom : Nat) (kkind : Int32) (knumber : Int32) (ksign : Int32) (kword : Int64) (ktapeF : Nat → Int32) (klineF : Nat → Int32) (hp : Nat) (aq : Nat) (ktoG_4 : Nat) (kfromG_5 : Nat) (kkindG_6 : Int32) (knumberG_7 : Int32) (ksignG_8 : Int32) (kwordG_11 : Int64) (ktoldG_12 : Int32) (klineG_28 : Nat → Int32) (ktoG_35 : Nat) (kfromG_36 : Nat) (kkindG_37 : Int32) (knumberG_38 : Int32) (ksignG_39 : Int32) (kwordG_42 : Int64) (ktoldG_43 : Int32) (klineG_60 : Nat → Int32) (ktoG_67 : Nat) (kfromG_68 : Nat) (kkindG_69 : Int32) (knumberG_70 : Int32) (ksignG_71 : Int32) (kwordG_74 : Int64) (iv_ko_1 : ksize ≤ 940) (iv_ko_2 : klimit ≤ 900) (iv_ko_3 : kto ≤ ksize) (iv_ko_4 : kfrom ≤ 940) (hTM : TM bt ktapeF) (ha : aq ≤ 156) (hMT : MT bt ksize klimit hp kkind ksign kfrom kto knumber kword) (p14 : ktoG_4 ≤ ksize) (p15 : kfromG_5 ≤ 940) (t16 : isO (pOne bt ksize klimit 8 9 hp) = true) (t17 : MT bt ksize klimit (tT bt ksize klimit hp) kkindG_6 ksignG_8 kfromG_5 ktoG_4 knumberG_7 kwordG_11) (t18 : 0 ≤ ktoldG_12.toInt) (t19 : ktoldG_12.toInt ≤ 1) (p30 : klineG_28 = upd klineF (aq + 1) ktoldG_12) (p45 : ktoG_35 ≤ ksize) (p46 : kfromG_36 ≤ 940) (t47 : pNum bt ksize klimit 0 5 (tT bt ksize klimit hp) = .ok (tN bt ksize (tT bt ksize klimit hp))) (t48 : ktoldG_43 = nI (tN bt ksize (tT bt ksize klimit hp))) (t49 : 0 ≤ tN bt ksize (tT bt ksize klimit hp)) (t50 : tN bt ksize (tT bt ksize klimit hp) ≤ 5) (t51 : MT bt ksize klimit (tT bt ksize klimit (tT bt ksize klimit hp)) kkindG_37 ksignG_39 kfromG_36 ktoG_35 knumberG_38 kwordG_42) (p62 : klineG_60 = upd klineG_28 (aq + 2) ktoldG_43) (p77 : ktoG_67 ≤ ksize) (p78 : kfromG_68 ≤ 940) (t79 : isO (pOne bt ksize klimit 10 11 (tT bt ksize klimit (tT bt ksize klimit hp))) = true) (t80 : MT bt ksize klimit (tT bt ksize klimit (tT bt ksize klimit (tT bt ksize klimit hp))) kkindG_69 ksignG_71 kfromG_68 ktoG_67 knumberG_70 kwordG_74) : (aq + 3) < 160 := by
  have b_kkind := ia_b kkind
  have b_knumber := ia_b knumber
  have b_ksign := ia_b ksign
  have b_kkindG_6 := ia_b kkindG_6
  have b_knumberG_7 := ia_b knumberG_7
  have b_ksignG_8 := ia_b ksignG_8
  have b_ktoldG_12 := ia_b ktoldG_12
  have b_kkindG_37 := ia_b kkindG_37
  have b_knumberG_38 := ia_b knumberG_38
  have b_ksignG_39 := ia_b ksignG_39
  have b_ktoldG_43 := ia_b ktoldG_43
  have b_kkindG_69 := ia_b kkindG_69
  have b_knumberG_70 := ia_b knumberG_70
  have b_ksignG_71 := ia_b ksignG_71
  have b_kword := Int64.toInt_lt kword
  have b_kwordG_11 := Int64.toInt_lt kwordG_11
  have b_kwordG_42 := Int64.toInt_lt kwordG_42
  have b_kwordG_74 := Int64.toInt_lt kwordG_74
  try have k_0 := ia_n (tN bt ksize (tT bt ksize klimit hp)) (by first | decide | omega)
  try simp only [ia_lt, ia_le, ia_eq, ia_m1, ia_0, ia_1, ne_eq, true_and, and_true, false_and, and_false, or_false, false_or, or_true, true_or, not_true_eq_false, not_false_eq_true] at *
  all_goals omega
set_option maxRecDepth 20000 in
theorem lf_g_readStir_6 (bt : Nat → Nat) (ksize : Nat) (klimit : Nat) (kto : Nat) (kfrom : Nat) (kkind : Int32) (knumber : Int32) (ksign : Int32) (kfault : Int32) (kplace : Int32) (kword : Int64) (ktapeF : Nat → Int32) (klineF : Nat → Int32) (hp : Nat) (aq : Nat) (ktoG_4 : Nat) (kfromG_5 : Nat) (kkindG_6 : Int32) (knumberG_7 : Int32) (ksignG_8 : Int32) (kfaultG_9 : Int32) (kplaceG_10 : Int32) (kwordG_11 : Int64) (ktoldG_12 : Int32) (klineG_28 : Nat → Int32) (ktoG_35 : Nat) (kfromG_36 : Nat) (kkindG_37 : Int32) (knumberG_38 : Int32) (ksignG_39 : Int32) (kfaultG_40 : Int32) (kplaceG_41 : Int32) (kwordG_42 : Int64) (ktoldG_43 : Int32) (klineG_60 : Nat → Int32) (ktoG_67 : Nat) (kfromG_68 : Nat) (kkindG_69 : Int32) (knumberG_70 : Int32) (ksignG_71 : Int32) (kfaultG_72 : Int32) (kplaceG_73 : Int32) (kwordG_74 : Int64) (ktoldG_75 : Int32) (klineG_91 : Nat → Int32) (iv_ko_1 : ksize ≤ 940) (iv_ko_2 : klimit ≤ 900) (iv_ko_3 : kto ≤ ksize) (iv_ko_4 : kfrom ≤ 940) (hTM : TM bt ktapeF) (ha : aq ≤ 156) (hMT : MT bt ksize klimit hp kkind ksign kfrom kto knumber kword) (p14 : ktoG_4 ≤ ksize) (p15 : kfromG_5 ≤ 940) (t16 : isO (pOne bt ksize klimit 8 9 hp) = true) (t17 : MT bt ksize klimit (tT bt ksize klimit hp) kkindG_6 ksignG_8 kfromG_5 ktoG_4 knumberG_7 kwordG_11) (t18 : 0 ≤ ktoldG_12.toInt) (t19 : ktoldG_12.toInt ≤ 1) (t20 : kfaultG_9 = kfault) (t21 : kplaceG_10 = kplace) (p30 : klineG_28 = upd klineF (aq + 1) ktoldG_12) (p45 : ktoG_35 ≤ ksize) (p46 : kfromG_36 ≤ 940) (t47 : pNum bt ksize klimit 0 5 (tT bt ksize klimit hp) = .ok (tN bt ksize (tT bt ksize klimit hp))) (t48 : ktoldG_43 = nI (tN bt ksize (tT bt ksize klimit hp))) (t49 : 0 ≤ tN bt ksize (tT bt ksize klimit hp)) (t50 : tN bt ksize (tT bt ksize klimit hp) ≤ 5) (t51 : MT bt ksize klimit (tT bt ksize klimit (tT bt ksize klimit hp)) kkindG_37 ksignG_39 kfromG_36 ktoG_35 knumberG_38 kwordG_42) (t52 : kfaultG_40 = kfaultG_9) (t53 : kplaceG_41 = kplaceG_10) (p62 : klineG_60 = upd klineG_28 (aq + 2) ktoldG_43) (p77 : ktoG_67 ≤ ksize) (p78 : kfromG_68 ≤ 940) (t79 : isO (pOne bt ksize klimit 10 11 (tT bt ksize klimit (tT bt ksize klimit hp))) = true) (t80 : MT bt ksize klimit (tT bt ksize klimit (tT bt ksize klimit (tT bt ksize klimit hp))) kkindG_69 ksignG_71 kfromG_68 ktoG_67 knumberG_70 kwordG_74) (t81 : 0 ≤ ktoldG_75.toInt) (t82 : ktoldG_75.toInt ≤ 1) (t83 : kfaultG_72 = kfaultG_40) (t84 : kplaceG_73 = kplaceG_41) (p93 : klineG_91 = upd klineG_60 (aq + 3) ktoldG_75) : ((nI 1) = nI 1 ∧ ((∀ j9, j9 < aq + 1 → klineG_91 j9 = klineF j9) ∧ 0 ≤ (klineG_91 (aq + 1)).toInt ∧ (klineG_91 (aq + 1)).toInt ≤ 1 ∧ 0 ≤ (klineG_91 (aq + 2)).toInt ∧ (klineG_91 (aq + 2)).toInt ≤ 5 ∧ 0 ≤ (klineG_91 (aq + 3)).toInt ∧ (klineG_91 (aq + 3)).toInt ≤ 1 ∧ isO (bRest bt ksize klimit 7 hp) = true ∧ MT bt ksize klimit (okV (bRest bt ksize klimit 7 hp)) kkindG_69 ksignG_71 kfromG_68 ktoG_67 knumberG_70 kwordG_74 ∧ kfaultG_72 = kfault ∧ kplaceG_73 = kplace)) ∨ ((nI 1) = nI 0 ∧ (isO (bRest bt ksize klimit 7 hp) = false ∧ kfaultG_72 = nI (erA (bRest bt ksize klimit 7 hp)) ∧ kplaceG_73 = nI (erB (bRest bt ksize klimit 7 hp)))) := by
  obtain ⟨e1v, e1⟩ := isOk ‹isO (pOne bt ksize klimit 8 9 hp) = true›
  obtain ⟨e3v, e3⟩ := isOk ‹isO (pOne bt ksize klimit 10 11 (tT bt ksize klimit (tT bt ksize klimit hp))) = true›
  have hX := p3_o (B := bt) (n := ksize) (m := klimit) (f := pOne bt ksize klimit 8 9) (g := pNum bt ksize klimit 0 5) (h := pOne bt ksize klimit 10 11) e1 (by assumption) e3
  rw [← br_7] at hX
  refine Or.inl ⟨rfl, fun j9 hj9 => ?_, ?_, ?_, ?_, ?_, ?_, ?_, (by rw [hX]; rfl), (by rw [hX]; assumption), (by first | rfl | assumption | (subst_vars; rfl) | (subst_vars; assumption)), (by first | rfl | assumption | (subst_vars; rfl) | (subst_vars; assumption))⟩
  · rw [p93, upd_ne (by omega), p62, upd_ne (by omega), p30, upd_ne (by omega)]
  · rw [p93, upd_ne (by omega), p62, upd_ne (by omega), p30, upd_eq]
    have b_kkind := ia_b kkind
    have b_knumber := ia_b knumber
    have b_ksign := ia_b ksign
    have b_kfault := ia_b kfault
    have b_kplace := ia_b kplace
    have b_kkindG_6 := ia_b kkindG_6
    have b_knumberG_7 := ia_b knumberG_7
    have b_ksignG_8 := ia_b ksignG_8
    have b_kfaultG_9 := ia_b kfaultG_9
    have b_kplaceG_10 := ia_b kplaceG_10
    have b_ktoldG_12 := ia_b ktoldG_12
    have b_kkindG_37 := ia_b kkindG_37
    have b_knumberG_38 := ia_b knumberG_38
    have b_ksignG_39 := ia_b ksignG_39
    have b_kfaultG_40 := ia_b kfaultG_40
    have b_kplaceG_41 := ia_b kplaceG_41
    have b_ktoldG_43 := ia_b ktoldG_43
    have b_kkindG_69 := ia_b kkindG_69
    have b_knumberG_70 := ia_b knumberG_70
    have b_ksignG_71 := ia_b ksignG_71
    have b_kfaultG_72 := ia_b kfaultG_72
    have b_kplaceG_73 := ia_b kplaceG_73
    have b_ktoldG_75 := ia_b ktoldG_75
    have b_kword := Int64.toInt_lt kword
    have b_kwordG_11 := Int64.toInt_lt kwordG_11
    have b_kwordG_42 := Int64.toInt_lt kwordG_42
    have b_kwordG_74 := Int64.toInt_lt kwordG_74
    try have k_0 := ia_n (tN bt ksize (tT bt ksize klimit hp)) (by first | decide | omega)
    try have k_1 := ia_n 1 (by first | decide | omega)
    try have k_2 := ia_n 0 (by first | decide | omega)
    try have k_3 := ia_n (erA (bRest bt ksize klimit 7 hp)) (by first | decide | omega)
    try have k_4 := ia_n (erB (bRest bt ksize klimit 7 hp)) (by first | decide | omega)
    try simp only [ia_lt, ia_le, ia_eq, ia_m1, ia_0, ia_1, ne_eq, true_and, and_true, false_and, and_false, or_false, false_or, or_true, true_or, not_true_eq_false, not_false_eq_true] at *
    all_goals omega
  · rw [p93, upd_ne (by omega), p62, upd_ne (by omega), p30, upd_eq]
    have b_kkind := ia_b kkind
    have b_knumber := ia_b knumber
    have b_ksign := ia_b ksign
    have b_kfault := ia_b kfault
    have b_kplace := ia_b kplace
    have b_kkindG_6 := ia_b kkindG_6
    have b_knumberG_7 := ia_b knumberG_7
    have b_ksignG_8 := ia_b ksignG_8
    have b_kfaultG_9 := ia_b kfaultG_9
    have b_kplaceG_10 := ia_b kplaceG_10
    have b_ktoldG_12 := ia_b ktoldG_12
    have b_kkindG_37 := ia_b kkindG_37
    have b_knumberG_38 := ia_b knumberG_38
    have b_ksignG_39 := ia_b ksignG_39
    have b_kfaultG_40 := ia_b kfaultG_40
    have b_kplaceG_41 := ia_b kplaceG_41
    have b_ktoldG_43 := ia_b ktoldG_43
    have b_kkindG_69 := ia_b kkindG_69
    have b_knumberG_70 := ia_b knumberG_70
    have b_ksignG_71 := ia_b ksignG_71
    have b_kfaultG_72 := ia_b kfaultG_72
    have b_kplaceG_73 := ia_b kplaceG_73
    have b_ktoldG_75 := ia_b ktoldG_75
    have b_kword := Int64.toInt_lt kword
    have b_kwordG_11 := Int64.toInt_lt kwordG_11
    have b_kwordG_42 := Int64.toInt_lt kwordG_42
    have b_kwordG_74 := Int64.toInt_lt kwordG_74
    try have k_0 := ia_n (tN bt ksize (tT bt ksize klimit hp)) (by first | decide | omega)
    try have k_1 := ia_n 1 (by first | decide | omega)
    try have k_2 := ia_n 0 (by first | decide | omega)
    try have k_3 := ia_n (erA (bRest bt ksize klimit 7 hp)) (by first | decide | omega)
    try have k_4 := ia_n (erB (bRest bt ksize klimit 7 hp)) (by first | decide | omega)
    try simp only [ia_lt, ia_le, ia_eq, ia_m1, ia_0, ia_1, ne_eq, true_and, and_true, false_and, and_false, or_false, false_or, or_true, true_or, not_true_eq_false, not_false_eq_true] at *
    all_goals omega
  · rw [p93, upd_ne (by omega), p62, upd_eq]
    have b_kkind := ia_b kkind
    have b_knumber := ia_b knumber
    have b_ksign := ia_b ksign
    have b_kfault := ia_b kfault
    have b_kplace := ia_b kplace
    have b_kkindG_6 := ia_b kkindG_6
    have b_knumberG_7 := ia_b knumberG_7
    have b_ksignG_8 := ia_b ksignG_8
    have b_kfaultG_9 := ia_b kfaultG_9
    have b_kplaceG_10 := ia_b kplaceG_10
    have b_ktoldG_12 := ia_b ktoldG_12
    have b_kkindG_37 := ia_b kkindG_37
    have b_knumberG_38 := ia_b knumberG_38
    have b_ksignG_39 := ia_b ksignG_39
    have b_kfaultG_40 := ia_b kfaultG_40
    have b_kplaceG_41 := ia_b kplaceG_41
    have b_ktoldG_43 := ia_b ktoldG_43
    have b_kkindG_69 := ia_b kkindG_69
    have b_knumberG_70 := ia_b knumberG_70
    have b_ksignG_71 := ia_b ksignG_71
    have b_kfaultG_72 := ia_b kfaultG_72
    have b_kplaceG_73 := ia_b kplaceG_73
    have b_ktoldG_75 := ia_b ktoldG_75
    have b_kword := Int64.toInt_lt kword
    have b_kwordG_11 := Int64.toInt_lt kwordG_11
    have b_kwordG_42 := Int64.toInt_lt kwordG_42
    have b_kwordG_74 := Int64.toInt_lt kwordG_74
    try have k_0 := ia_n (tN bt ksize (tT bt ksize klimit hp)) (by first | decide | omega)
    try have k_1 := ia_n 1 (by first | decide | omega)
    try have k_2 := ia_n 0 (by first | decide | omega)
    try have k_3 := ia_n (erA (bRest bt ksize klimit 7 hp)) (by first | decide | omega)
    try have k_4 := ia_n (erB (bRest bt ksize klimit 7 hp)) (by first | decide | omega)
    try simp only [ia_lt, ia_le, ia_eq, ia_m1, ia_0, ia_1, ne_eq, true_and, and_true, false_and, and_false, or_false, false_or, or_true, true_or, not_true_eq_false, not_false_eq_true] at *
    all_goals omega
  · rw [p93, upd_ne (by omega), p62, upd_eq]
    have b_kkind := ia_b kkind
    have b_knumber := ia_b knumber
    have b_ksign := ia_b ksign
    have b_kfault := ia_b kfault
    have b_kplace := ia_b kplace
    have b_kkindG_6 := ia_b kkindG_6
    have b_knumberG_7 := ia_b knumberG_7
    have b_ksignG_8 := ia_b ksignG_8
    have b_kfaultG_9 := ia_b kfaultG_9
    have b_kplaceG_10 := ia_b kplaceG_10
    have b_ktoldG_12 := ia_b ktoldG_12
    have b_kkindG_37 := ia_b kkindG_37
    have b_knumberG_38 := ia_b knumberG_38
    have b_ksignG_39 := ia_b ksignG_39
    have b_kfaultG_40 := ia_b kfaultG_40
    have b_kplaceG_41 := ia_b kplaceG_41
    have b_ktoldG_43 := ia_b ktoldG_43
    have b_kkindG_69 := ia_b kkindG_69
    have b_knumberG_70 := ia_b knumberG_70
    have b_ksignG_71 := ia_b ksignG_71
    have b_kfaultG_72 := ia_b kfaultG_72
    have b_kplaceG_73 := ia_b kplaceG_73
    have b_ktoldG_75 := ia_b ktoldG_75
    have b_kword := Int64.toInt_lt kword
    have b_kwordG_11 := Int64.toInt_lt kwordG_11
    have b_kwordG_42 := Int64.toInt_lt kwordG_42
    have b_kwordG_74 := Int64.toInt_lt kwordG_74
    try have k_0 := ia_n (tN bt ksize (tT bt ksize klimit hp)) (by first | decide | omega)
    try have k_1 := ia_n 1 (by first | decide | omega)
    try have k_2 := ia_n 0 (by first | decide | omega)
    try have k_3 := ia_n (erA (bRest bt ksize klimit 7 hp)) (by first | decide | omega)
    try have k_4 := ia_n (erB (bRest bt ksize klimit 7 hp)) (by first | decide | omega)
    try simp only [ia_lt, ia_le, ia_eq, ia_m1, ia_0, ia_1, ne_eq, true_and, and_true, false_and, and_false, or_false, false_or, or_true, true_or, not_true_eq_false, not_false_eq_true] at *
    all_goals omega
  · rw [p93, upd_eq]
    have b_kkind := ia_b kkind
    have b_knumber := ia_b knumber
    have b_ksign := ia_b ksign
    have b_kfault := ia_b kfault
    have b_kplace := ia_b kplace
    have b_kkindG_6 := ia_b kkindG_6
    have b_knumberG_7 := ia_b knumberG_7
    have b_ksignG_8 := ia_b ksignG_8
    have b_kfaultG_9 := ia_b kfaultG_9
    have b_kplaceG_10 := ia_b kplaceG_10
    have b_ktoldG_12 := ia_b ktoldG_12
    have b_kkindG_37 := ia_b kkindG_37
    have b_knumberG_38 := ia_b knumberG_38
    have b_ksignG_39 := ia_b ksignG_39
    have b_kfaultG_40 := ia_b kfaultG_40
    have b_kplaceG_41 := ia_b kplaceG_41
    have b_ktoldG_43 := ia_b ktoldG_43
    have b_kkindG_69 := ia_b kkindG_69
    have b_knumberG_70 := ia_b knumberG_70
    have b_ksignG_71 := ia_b ksignG_71
    have b_kfaultG_72 := ia_b kfaultG_72
    have b_kplaceG_73 := ia_b kplaceG_73
    have b_ktoldG_75 := ia_b ktoldG_75
    have b_kword := Int64.toInt_lt kword
    have b_kwordG_11 := Int64.toInt_lt kwordG_11
    have b_kwordG_42 := Int64.toInt_lt kwordG_42
    have b_kwordG_74 := Int64.toInt_lt kwordG_74
    try have k_0 := ia_n (tN bt ksize (tT bt ksize klimit hp)) (by first | decide | omega)
    try have k_1 := ia_n 1 (by first | decide | omega)
    try have k_2 := ia_n 0 (by first | decide | omega)
    try have k_3 := ia_n (erA (bRest bt ksize klimit 7 hp)) (by first | decide | omega)
    try have k_4 := ia_n (erB (bRest bt ksize klimit 7 hp)) (by first | decide | omega)
    try simp only [ia_lt, ia_le, ia_eq, ia_m1, ia_0, ia_1, ne_eq, true_and, and_true, false_and, and_false, or_false, false_or, or_true, true_or, not_true_eq_false, not_false_eq_true] at *
    all_goals omega
  · rw [p93, upd_eq]
    have b_kkind := ia_b kkind
    have b_knumber := ia_b knumber
    have b_ksign := ia_b ksign
    have b_kfault := ia_b kfault
    have b_kplace := ia_b kplace
    have b_kkindG_6 := ia_b kkindG_6
    have b_knumberG_7 := ia_b knumberG_7
    have b_ksignG_8 := ia_b ksignG_8
    have b_kfaultG_9 := ia_b kfaultG_9
    have b_kplaceG_10 := ia_b kplaceG_10
    have b_ktoldG_12 := ia_b ktoldG_12
    have b_kkindG_37 := ia_b kkindG_37
    have b_knumberG_38 := ia_b knumberG_38
    have b_ksignG_39 := ia_b ksignG_39
    have b_kfaultG_40 := ia_b kfaultG_40
    have b_kplaceG_41 := ia_b kplaceG_41
    have b_ktoldG_43 := ia_b ktoldG_43
    have b_kkindG_69 := ia_b kkindG_69
    have b_knumberG_70 := ia_b knumberG_70
    have b_ksignG_71 := ia_b ksignG_71
    have b_kfaultG_72 := ia_b kfaultG_72
    have b_kplaceG_73 := ia_b kplaceG_73
    have b_ktoldG_75 := ia_b ktoldG_75
    have b_kword := Int64.toInt_lt kword
    have b_kwordG_11 := Int64.toInt_lt kwordG_11
    have b_kwordG_42 := Int64.toInt_lt kwordG_42
    have b_kwordG_74 := Int64.toInt_lt kwordG_74
    try have k_0 := ia_n (tN bt ksize (tT bt ksize klimit hp)) (by first | decide | omega)
    try have k_1 := ia_n 1 (by first | decide | omega)
    try have k_2 := ia_n 0 (by first | decide | omega)
    try have k_3 := ia_n (erA (bRest bt ksize klimit 7 hp)) (by first | decide | omega)
    try have k_4 := ia_n (erB (bRest bt ksize klimit 7 hp)) (by first | decide | omega)
    try simp only [ia_lt, ia_le, ia_eq, ia_m1, ia_0, ia_1, ne_eq, true_and, and_true, false_and, and_false, or_false, false_or, or_true, true_or, not_true_eq_false, not_false_eq_true] at *
    all_goals omega
set_option maxRecDepth 20000 in
theorem lf_g_readStir_7 (bt : Nat → Nat) (ksize : Nat) (klimit : Nat) (kto : Nat) (kfrom : Nat) (kkind : Int32) (knumber : Int32) (ksign : Int32) (kfault : Int32) (kplace : Int32) (kword : Int64) (ktapeF : Nat → Int32) (klineF : Nat → Int32) (hp : Nat) (aq : Nat) (ktoG_4 : Nat) (kfromG_5 : Nat) (kkindG_6 : Int32) (knumberG_7 : Int32) (ksignG_8 : Int32) (kfaultG_9 : Int32) (kplaceG_10 : Int32) (kwordG_11 : Int64) (ktoldG_12 : Int32) (klineG_28 : Nat → Int32) (ktoG_35 : Nat) (kfromG_36 : Nat) (kkindG_37 : Int32) (knumberG_38 : Int32) (ksignG_39 : Int32) (kfaultG_40 : Int32) (kplaceG_41 : Int32) (kwordG_42 : Int64) (ktoldG_43 : Int32) (klineG_60 : Nat → Int32) (ktoG_67 : Nat) (kfromG_68 : Nat) (kkindG_69 : Int32) (knumberG_70 : Int32) (ksignG_71 : Int32) (kfaultG_72 : Int32) (kplaceG_73 : Int32) (kwordG_74 : Int64) (iv_ko_1 : ksize ≤ 940) (iv_ko_2 : klimit ≤ 900) (iv_ko_3 : kto ≤ ksize) (iv_ko_4 : kfrom ≤ 940) (hTM : TM bt ktapeF) (ha : aq ≤ 156) (hMT : MT bt ksize klimit hp kkind ksign kfrom kto knumber kword) (p14 : ktoG_4 ≤ ksize) (p15 : kfromG_5 ≤ 940) (t16 : isO (pOne bt ksize klimit 8 9 hp) = true) (t17 : MT bt ksize klimit (tT bt ksize klimit hp) kkindG_6 ksignG_8 kfromG_5 ktoG_4 knumberG_7 kwordG_11) (t18 : 0 ≤ ktoldG_12.toInt) (t19 : ktoldG_12.toInt ≤ 1) (t20 : kfaultG_9 = kfault) (t21 : kplaceG_10 = kplace) (p30 : klineG_28 = upd klineF (aq + 1) ktoldG_12) (p45 : ktoG_35 ≤ ksize) (p46 : kfromG_36 ≤ 940) (t47 : pNum bt ksize klimit 0 5 (tT bt ksize klimit hp) = .ok (tN bt ksize (tT bt ksize klimit hp))) (t48 : ktoldG_43 = nI (tN bt ksize (tT bt ksize klimit hp))) (t49 : 0 ≤ tN bt ksize (tT bt ksize klimit hp)) (t50 : tN bt ksize (tT bt ksize klimit hp) ≤ 5) (t51 : MT bt ksize klimit (tT bt ksize klimit (tT bt ksize klimit hp)) kkindG_37 ksignG_39 kfromG_36 ktoG_35 knumberG_38 kwordG_42) (t52 : kfaultG_40 = kfaultG_9) (t53 : kplaceG_41 = kplaceG_10) (p62 : klineG_60 = upd klineG_28 (aq + 2) ktoldG_43) (p77 : ktoG_67 ≤ ksize) (p78 : kfromG_68 ≤ 940) (t85 : isO (pOne bt ksize klimit 10 11 (tT bt ksize klimit (tT bt ksize klimit hp))) = false) (t86 : kfaultG_72 = nI (erA (pOne bt ksize klimit 10 11 (tT bt ksize klimit (tT bt ksize klimit hp))))) (t87 : kplaceG_73 = nI (erB (pOne bt ksize klimit 10 11 (tT bt ksize klimit (tT bt ksize klimit hp))))) : ((nI 0) = nI 1 ∧ ((∀ j9, j9 < aq + 1 → klineG_60 j9 = klineF j9) ∧ 0 ≤ (klineG_60 (aq + 1)).toInt ∧ (klineG_60 (aq + 1)).toInt ≤ 1 ∧ 0 ≤ (klineG_60 (aq + 2)).toInt ∧ (klineG_60 (aq + 2)).toInt ≤ 5 ∧ 0 ≤ (klineG_60 (aq + 3)).toInt ∧ (klineG_60 (aq + 3)).toInt ≤ 1 ∧ isO (bRest bt ksize klimit 7 hp) = true ∧ MT bt ksize klimit (okV (bRest bt ksize klimit 7 hp)) kkindG_69 ksignG_71 kfromG_68 ktoG_67 knumberG_70 kwordG_74 ∧ kfaultG_72 = kfault ∧ kplaceG_73 = kplace)) ∨ ((nI 0) = nI 0 ∧ (isO (bRest bt ksize klimit 7 hp) = false ∧ kfaultG_72 = nI (erA (bRest bt ksize klimit 7 hp)) ∧ kplaceG_73 = nI (erB (bRest bt ksize klimit 7 hp)))) := by
  obtain ⟨e1v, e1⟩ := isOk ‹isO (pOne bt ksize klimit 8 9 hp) = true›
  rw [br_7, p3_3 e1 (by assumption) (isE ‹isO (pOne bt ksize klimit 10 11 (tT bt ksize klimit (tT bt ksize klimit hp))) = false›)]
  exact Or.inr ⟨rfl, rfl, ‹_›, ‹_›⟩
set_option maxRecDepth 20000 in
theorem lf_g_readStir_8 (bt : Nat → Nat) (ksize : Nat) (klimit : Nat) (kto : Nat) (kfrom : Nat) (kkind : Int32) (knumber : Int32) (ksign : Int32) (kfault : Int32) (kplace : Int32) (kword : Int64) (ktapeF : Nat → Int32) (klineF : Nat → Int32) (hp : Nat) (aq : Nat) (ktoG_4 : Nat) (kfromG_5 : Nat) (kkindG_6 : Int32) (knumberG_7 : Int32) (ksignG_8 : Int32) (kfaultG_9 : Int32) (kplaceG_10 : Int32) (kwordG_11 : Int64) (ktoldG_12 : Int32) (klineG_28 : Nat → Int32) (ktoG_35 : Nat) (kfromG_36 : Nat) (kkindG_37 : Int32) (knumberG_38 : Int32) (ksignG_39 : Int32) (kfaultG_40 : Int32) (kplaceG_41 : Int32) (kwordG_42 : Int64) (iv_ko_1 : ksize ≤ 940) (iv_ko_2 : klimit ≤ 900) (iv_ko_3 : kto ≤ ksize) (iv_ko_4 : kfrom ≤ 940) (hTM : TM bt ktapeF) (ha : aq ≤ 156) (hMT : MT bt ksize klimit hp kkind ksign kfrom kto knumber kword) (p14 : ktoG_4 ≤ ksize) (p15 : kfromG_5 ≤ 940) (t16 : isO (pOne bt ksize klimit 8 9 hp) = true) (t17 : MT bt ksize klimit (tT bt ksize klimit hp) kkindG_6 ksignG_8 kfromG_5 ktoG_4 knumberG_7 kwordG_11) (t18 : 0 ≤ ktoldG_12.toInt) (t19 : ktoldG_12.toInt ≤ 1) (t20 : kfaultG_9 = kfault) (t21 : kplaceG_10 = kplace) (p30 : klineG_28 = upd klineF (aq + 1) ktoldG_12) (p45 : ktoG_35 ≤ ksize) (p46 : kfromG_36 ≤ 940) (t54 : pNum bt ksize klimit 0 5 (tT bt ksize klimit hp) = .error (nER bt ksize klimit (tT bt ksize klimit hp), tF bt ksize klimit (tT bt ksize klimit hp))) (t55 : kfaultG_40 = nI (nER bt ksize klimit (tT bt ksize klimit hp))) (t56 : kplaceG_41 = nI (tF bt ksize klimit (tT bt ksize klimit hp))) : ((nI 0) = nI 1 ∧ ((∀ j9, j9 < aq + 1 → klineG_28 j9 = klineF j9) ∧ 0 ≤ (klineG_28 (aq + 1)).toInt ∧ (klineG_28 (aq + 1)).toInt ≤ 1 ∧ 0 ≤ (klineG_28 (aq + 2)).toInt ∧ (klineG_28 (aq + 2)).toInt ≤ 5 ∧ 0 ≤ (klineG_28 (aq + 3)).toInt ∧ (klineG_28 (aq + 3)).toInt ≤ 1 ∧ isO (bRest bt ksize klimit 7 hp) = true ∧ MT bt ksize klimit (okV (bRest bt ksize klimit 7 hp)) kkindG_37 ksignG_39 kfromG_36 ktoG_35 knumberG_38 kwordG_42 ∧ kfaultG_40 = kfault ∧ kplaceG_41 = kplace)) ∨ ((nI 0) = nI 0 ∧ (isO (bRest bt ksize klimit 7 hp) = false ∧ kfaultG_40 = nI (erA (bRest bt ksize klimit 7 hp)) ∧ kplaceG_41 = nI (erB (bRest bt ksize klimit 7 hp)))) := by
  obtain ⟨e1v, e1⟩ := isOk ‹isO (pOne bt ksize klimit 8 9 hp) = true›
  rw [br_7, p3_2 e1 (by assumption)]
  exact Or.inr ⟨rfl, rfl, ‹_›, ‹_›⟩
set_option maxRecDepth 20000 in
theorem lf_g_readStir_9 (bt : Nat → Nat) (ksize : Nat) (klimit : Nat) (kto : Nat) (kfrom : Nat) (kkind : Int32) (knumber : Int32) (ksign : Int32) (kfault : Int32) (kplace : Int32) (kword : Int64) (ktapeF : Nat → Int32) (klineF : Nat → Int32) (hp : Nat) (aq : Nat) (ktoG_4 : Nat) (kfromG_5 : Nat) (kkindG_6 : Int32) (knumberG_7 : Int32) (ksignG_8 : Int32) (kfaultG_9 : Int32) (kplaceG_10 : Int32) (kwordG_11 : Int64) (iv_ko_1 : ksize ≤ 940) (iv_ko_2 : klimit ≤ 900) (iv_ko_3 : kto ≤ ksize) (iv_ko_4 : kfrom ≤ 940) (hTM : TM bt ktapeF) (ha : aq ≤ 156) (hMT : MT bt ksize klimit hp kkind ksign kfrom kto knumber kword) (p14 : ktoG_4 ≤ ksize) (p15 : kfromG_5 ≤ 940) (t22 : isO (pOne bt ksize klimit 8 9 hp) = false) (t23 : kfaultG_9 = nI (erA (pOne bt ksize klimit 8 9 hp))) (t24 : kplaceG_10 = nI (erB (pOne bt ksize klimit 8 9 hp))) : ((nI 0) = nI 1 ∧ ((∀ j9, j9 < aq + 1 → klineF j9 = klineF j9) ∧ 0 ≤ (klineF (aq + 1)).toInt ∧ (klineF (aq + 1)).toInt ≤ 1 ∧ 0 ≤ (klineF (aq + 2)).toInt ∧ (klineF (aq + 2)).toInt ≤ 5 ∧ 0 ≤ (klineF (aq + 3)).toInt ∧ (klineF (aq + 3)).toInt ≤ 1 ∧ isO (bRest bt ksize klimit 7 hp) = true ∧ MT bt ksize klimit (okV (bRest bt ksize klimit 7 hp)) kkindG_6 ksignG_8 kfromG_5 ktoG_4 knumberG_7 kwordG_11 ∧ kfaultG_9 = kfault ∧ kplaceG_10 = kplace)) ∨ ((nI 0) = nI 0 ∧ (isO (bRest bt ksize klimit 7 hp) = false ∧ kfaultG_9 = nI (erA (bRest bt ksize klimit 7 hp)) ∧ kplaceG_10 = nI (erB (bRest bt ksize klimit 7 hp)))) := by
  rw [br_7, p3_1 (isE ‹isO (pOne bt ksize klimit 8 9 hp) = false›)]
  exact Or.inr ⟨rfl, rfl, ‹_›, ‹_›⟩
set_option maxHeartbeats 4000000 in
set_option maxRecDepth 100000 in
theorem c_g_readStir (l : Launch) (dC : Nat → ClassId) (dI : Nat → Nat → Nat) (ky : Nat → ClassId) (sz : Nat) (bt : Nat → Nat) (o : Nat) (kthrown : Int32) (ktape : Nat) (ktaped : Nat) (ksize : Nat) (klimit : Nat) (kto : Nat) (kfrom : Nat) (kkind : Int32) (knumber : Int32) (ksign : Int32) (kfault : Int32) (kplace : Int32) (kword : Int64) (ktold : Int32) (know : Nat) (kread : Nat) (kkept : Nat) (ksnaps : Nat) (kaside : Nat) (kname : Nat) (kreadName : Nat) (kkeptName : Nat) (kisKept : Nat) (konces : Nat) (ksnapMany : Nat) (khasCells : Int32) (kpoured : Nat) (kfar : Nat) (ksides : Nat) (ksideMany : Nat) (kwayDays : Int32) (khasWay : Int32) (klines : Nat) (kmet : Nat) (kmetMany : Nat) (ksunk : Nat) (ktrying : Nat) (ksunkMany : Nat) (ksending : Int32) (kfleets : Int32) (ktext : Nat) (ktexts : Nat) (kseed : Int32) (kline : Nat) (kwritten : Nat) (klineMany : Nat) (khasWritten : Int32) (knode : Nat) (knodes : Nat) (konesMany : Nat) (kwithin : Nat) (ktop : Nat) (ktapeF : Nat → Int32) (klineF : Nat → Int32) (hp : Nat) (aq : Nat) (iv_ko_0 : ktaped ≤ 940) (iv_ko_1 : ksize ≤ 940) (iv_ko_2 : klimit ≤ 900) (iv_ko_3 : kto ≤ ksize) (iv_ko_4 : kfrom ≤ 940) (iv_ko_5 : ksnapMany ≤ 8) (iv_ko_6 : ksideMany ≤ 36) (iv_ko_7 : kmetMany ≤ 3) (iv_ko_8 : ksunkMany ≤ 36) (iv_ko_9 : ktexts ≤ 64) (iv_ko_10 : klineMany ≤ 40) (iv_ko_11 : knodes ≤ 60) (iv_ko_12 : konesMany ≤ 20) (iv_ko_13 : kwithin ≤ 8) (iv_ko_14 : ktop ≤ 59) (hTM : TM bt ktapeF) (ha : aq ≤ 156) (hMT : MT bt ksize klimit hp kkind ksign kfrom kto knumber kword) : Met l yX12_readStir wsX12_readStir ({ frames := 4, cells := 0, slots := 0, locals := 91 }) (PcU dC dI ky [.ref o, .int (nI aq)] [(o, .inr (12, [.int kthrown, .ref ktape, .int (nI ktaped), .int (nI ksize), .int (nI klimit), .int (nI kto), .int (nI kfrom), .int kkind, .int knumber, .int ksign, .int kfault, .int kplace, .long kword, .int ktold, .ref know, .ref kread, .ref kkept, .ref ksnaps, .ref kaside, .ref kname, .ref kreadName, .ref kkeptName, .ref kisKept, .ref konces, .int (nI ksnapMany), .int khasCells, .ref kpoured, .ref kfar, .ref ksides, .int (nI ksideMany), .int kwayDays, .int khasWay, .ref klines, .ref kmet, .int (nI kmetMany), .ref ksunk, .ref ktrying, .int (nI ksunkMany), .int ksending, .int kfleets, .ref ktext, .int (nI ktexts), .int kseed, .ref kline, .ref kwritten, .int (nI klineMany), .int khasWritten, .ref knode, .int (nI knodes), .int (nI konesMany), .int (nI kwithin), .int (nI ktop)])), (ktape, .inl (ky 0, 940, .inl ktapeF)), (kline, .inl (ky 0, 160, .inl klineF))] sz) (va_Qi (fun (r : Int32) (u : Nat × Nat × Int32 × Int32 × Int32 × Int32 × Int32 × Int64 × Int32 × (Nat → Int32)) => match u with | (ktoG, kfromG, kkindG, knumberG, ksignG, kfaultG, kplaceG, kwordG, ktoldG, klineG) => ((r = nI 1 ∧ ((∀ j9, j9 < aq + 1 → klineG j9 = klineF j9) ∧ 0 ≤ (klineG (aq + 1)).toInt ∧ (klineG (aq + 1)).toInt ≤ 1 ∧ 0 ≤ (klineG (aq + 2)).toInt ∧ (klineG (aq + 2)).toInt ≤ 5 ∧ 0 ≤ (klineG (aq + 3)).toInt ∧ (klineG (aq + 3)).toInt ≤ 1 ∧ isO (bRest bt ksize klimit 7 hp) = true ∧ MT bt ksize klimit (okV (bRest bt ksize klimit 7 hp)) kkindG ksignG kfromG ktoG knumberG kwordG ∧ kfaultG = kfault ∧ kplaceG = kplace)) ∨ (r = nI 0 ∧ (isO (bRest bt ksize klimit 7 hp) = false ∧ kfaultG = nI (erA (bRest bt ksize klimit 7 hp)) ∧ kplaceG = nI (erB (bRest bt ksize klimit 7 hp))))) ∧ (ktoG ≤ ksize) ∧ (kfromG ≤ 940)) (BU dC dI ky (fun (u : Nat × Nat × Int32 × Int32 × Int32 × Int32 × Int32 × Int64 × Int32 × (Nat → Int32)) => match u with | (ktoG, kfromG, kkindG, knumberG, ksignG, kfaultG, kplaceG, kwordG, ktoldG, klineG) => [(o, .inr (12, [.int kthrown, .ref ktape, .int (nI ktaped), .int (nI ksize), .int (nI klimit), .int (nI ktoG), .int (nI kfromG), .int kkindG, .int knumberG, .int ksignG, .int kfaultG, .int kplaceG, .long kwordG, .int ktoldG, .ref know, .ref kread, .ref kkept, .ref ksnaps, .ref kaside, .ref kname, .ref kreadName, .ref kkeptName, .ref kisKept, .ref konces, .int (nI ksnapMany), .int khasCells, .ref kpoured, .ref kfar, .ref ksides, .int (nI ksideMany), .int kwayDays, .int khasWay, .ref klines, .ref kmet, .int (nI kmetMany), .ref ksunk, .ref ktrying, .int (nI ksunkMany), .int ksending, .int kfleets, .ref ktext, .int (nI ktexts), .int kseed, .ref kline, .ref kwritten, .int (nI klineMany), .int khasWritten, .ref knode, .int (nI knodes), .int (nI konesMany), .int (nI kwithin), .int (nI ktop)])), (ktape, .inl (ky 0, 940, .inl ktapeF)), (kline, .inl (ky 0, 160, .inl klineG))]) (va_A [(o, .inr (12, [.int kthrown, .ref ktape, .int (nI ktaped), .int (nI ksize), .int (nI klimit), .int (nI kto), .int (nI kfrom), .int kkind, .int knumber, .int ksign, .int kfault, .int kplace, .long kword, .int ktold, .ref know, .ref kread, .ref kkept, .ref ksnaps, .ref kaside, .ref kname, .ref kreadName, .ref kkeptName, .ref kisKept, .ref konces, .int (nI ksnapMany), .int khasCells, .ref kpoured, .ref kfar, .ref ksides, .int (nI ksideMany), .int kwayDays, .int khasWay, .ref klines, .ref kmet, .int (nI kmetMany), .ref ksunk, .ref ktrying, .int (nI ksunkMany), .int ksending, .int kfleets, .ref ktext, .int (nI ktexts), .int kseed, .ref kline, .ref kwritten, .int (nI klineMany), .int khasWritten, .ref knode, .int (nI knodes), .int (nI konesMany), .int (nI kwithin), .int (nI ktop)])), (ktape, .inl (ky 0, 940, .inl ktapeF)), (kline, .inl (ky 0, 160, .inl klineF))] sz)) (va_A [(o, .inr (12, [.int kthrown, .ref ktape, .int (nI ktaped), .int (nI ksize), .int (nI klimit), .int (nI kto), .int (nI kfrom), .int kkind, .int knumber, .int ksign, .int kfault, .int kplace, .long kword, .int ktold, .ref know, .ref kread, .ref kkept, .ref ksnaps, .ref kaside, .ref kname, .ref kreadName, .ref kkeptName, .ref kisKept, .ref konces, .int (nI ksnapMany), .int khasCells, .ref kpoured, .ref kfar, .ref ksides, .int (nI ksideMany), .int kwayDays, .int khasWay, .ref klines, .ref kmet, .int (nI kmetMany), .ref ksunk, .ref ktrying, .int (nI ksunkMany), .int ksending, .int kfleets, .ref ktext, .int (nI ktexts), .int kseed, .ref kline, .ref kwritten, .int (nI klineMany), .int khasWritten, .ref knode, .int (nI knodes), .int (nI konesMany), .int (nI kwithin), .int (nI ktop)])), (ktape, .inl (ky 0, 940, .inl ktapeF)), (kline, .inl (ky 0, 160, .inl klineF))] sz)) 0 0 (va_A [(o, .inr (12, [.int kthrown, .ref ktape, .int (nI ktaped), .int (nI ksize), .int (nI klimit), .int (nI kto), .int (nI kfrom), .int kkind, .int knumber, .int ksign, .int kfault, .int kplace, .long kword, .int ktold, .ref know, .ref kread, .ref kkept, .ref ksnaps, .ref kaside, .ref kname, .ref kreadName, .ref kkeptName, .ref kisKept, .ref konces, .int (nI ksnapMany), .int khasCells, .ref kpoured, .ref kfar, .ref ksides, .int (nI ksideMany), .int kwayDays, .int khasWay, .ref klines, .ref kmet, .int (nI kmetMany), .ref ksunk, .ref ktrying, .int (nI ksunkMany), .int ksending, .int kfleets, .ref ktext, .int (nI ktexts), .int kseed, .ref kline, .ref kwritten, .int (nI klineMany), .int khasWritten, .ref knode, .int (nI knodes), .int (nI konesMany), .int (nI kwithin), .int (nI ktop)])), (ktape, .inl (ky 0, 940, .inl ktapeF)), (kline, .inl (ky 0, 160, .inl klineF))] sz) := by
  refine Met.ofW (cc := cX12_readStir) (maxL := 2) (ret := (some .boolean)) (by decide) rfl ?_
  intro p e s m args below meth c s₁ B hml hv
  obtain ⟨rfl, hsz, hP, hK, hD0⟩ := hv
  have hx := B.exec
  have hb := B.bytes
  have hr := B.returns
  have hts := atoms_spec (ws := wsX12_readStir) B.pre
  have hown : s.vm.findClass RX12 = some m.cls := findClass_of_methodNamed B.named
  have hlocks := B.notSynchronized
  subst hsz
  have hD := hD0.self (sz := s.heap.size)
  generalize hAe : va_A [(o, .inr (12, [.int kthrown, .ref ktape, .int (nI ktaped), .int (nI ksize), .int (nI klimit), .int (nI kto), .int (nI kfrom), .int kkind, .int knumber, .int ksign, .int kfault, .int kplace, .long kword, .int ktold, .ref know, .ref kread, .ref kkept, .ref ksnaps, .ref kaside, .ref kname, .ref kreadName, .ref kkeptName, .ref kisKept, .ref konces, .int (nI ksnapMany), .int khasCells, .ref kpoured, .ref kfar, .ref ksides, .int (nI ksideMany), .int kwayDays, .int khasWay, .ref klines, .ref kmet, .int (nI kmetMany), .ref ksunk, .ref ktrying, .int (nI ksunkMany), .int ksending, .int kfleets, .ref ktext, .int (nI ktexts), .int kseed, .ref kline, .ref kwritten, .int (nI klineMany), .int khasWritten, .ref knode, .int (nI knodes), .int (nI konesMany), .int (nI kwithin), .int (nI ktop)])), (ktape, .inl (ky 0, 940, .inl ktapeF)), (kline, .inl (ky 0, 160, .inl klineF))] s.heap.size = A at hD ⊢
  have hA : ∀ q : Nat, s.heap.size ≤ q → A q := fun q h => by rw [← hAe]; exact Or.inr h
  have hS : va_S A s.heap s.heap [] := va_S.rf
  have hl := lv_entry ([.ref o, .int (nI aq)]) (n := 2) (Nat.le_of_ble_eq_true rfl)
  rw [lg_entry_eq]
  generalize (lg_sl ([.ref o, .int (nI aq)]) ++ List.replicate (2 - (lg_sl ([.ref o, .int (nI aq)])).length) Slot.unset).toArray = ls at hl ⊢
  have hl : lv_has ls 2 [(0, .ref o), (1, .int (nI aq))] := hl
  refine q_name (fun Q hQ => ?_)
  generalize ([.ref o, .int (nI aq)] : List Value).toArray = args at hts hQ ⊢
  refine lv_aload_n hx hb dX12_readStir_0 rfl (lv_at hl 0 rfl) ?_
  refine lv_iload_n hx hb dX12_readStir_1 rfl (lv_at hl 1 rfl) ?_
  refine lv_iconst (v := nI 1) hx hb dX12_readStir_2 (by decide) ?_
  refine lv_iadd hx hb dX12_readStir_3 ?_
  refine r_ti (nI (aq + 1)) (nI_add _ _) ?_
  refine lv_aload_n hx hb dX12_readStir_4 rfl (lv_at hl 0 rfl) ?_
  refine lv_bipush (v := nI 8) hx hb dX12_readStir_5 (by decide) ?_
  refine lv_bipush (v := nI 9) hx hb dX12_readStir_7 (by decide) ?_
  refine r_call_i (wr := [(kline, .inl (ky 0, 160, .inl klineF))]) (va_runV (As := [.int (nI 8), .int (nI 9)]) (rest := [.int (nI (aq + 1)), .ref o]) ⟨hx, hb, hml, hown, hts⟩ (c_g_oneOf8 l dC dI ky s.heap.size bt o kthrown ktape ktaped ksize klimit kto kfrom kkind knumber ksign kfault kplace kword ktold know kread kkept ksnaps kaside kname kreadName kkeptName kisKept konces ksnapMany khasCells kpoured kfar ksides ksideMany kwayDays khasWay klines kmet kmetMany ksunk ktrying ksunkMany ksending kfleets ktext ktexts kseed kline kwritten klineMany khasWritten knode knodes konesMany kwithin ktop ktapeF hp iv_ko_0 iv_ko_1 iv_ko_2 iv_ko_3 iv_ko_4 iv_ko_5 iv_ko_6 iv_ko_7 iv_ko_8 iv_ko_9 iv_ko_10 iv_ko_11 iv_ko_12 iv_ko_13 iv_ko_14 hTM hMT) (cwV 2 hts gX12_readStir_X12_readOneOf rfl rfl rfl (by decide +kernel) ⟨(Nat.le_of_ble_eq_true rfl), (Nat.le_of_ble_eq_true rfl)⟩) (pre_UV hK hP hD [0, 1] (by decide) rfl (ci := 12) (q0 := 0) rfl rfl) rfl rfl hl.1 rfl (lv_room (Nat.le_of_ble_eq_true rfl)) dX12_readStir_9 ⟨(Nat.le_of_ble_eq_true rfl), (Nat.le_of_ble_eq_true rfl)⟩) hP hD hS hA [0, 1] [2] rfl rfl (by decide) (by decide) (fun r3 u1 H locs p2 hP hD hS => ?_)
  obtain ⟨ktoG_4, kfromG_5, kkindG_6, knumberG_7, ksignG_8, kfaultG_9, kplaceG_10, kwordG_11, ktoldG_12⟩ := u1
  try dsimp only at p2
  obtain ⟨p13, p14, p15⟩ := p2
  refine W.widen (k := 0) (n := 0) (Nat.le_of_ble_eq_true rfl) (Nat.le_of_ble_eq_true rfl) ?_
  have hP : va_P (dC, dI) vwCl [(kline, .inl (ky 0, 160, .inl klineF)), (o, .inr (12, [.int kthrown, .ref ktape, .int (nI ktaped), .int (nI ksize), .int (nI klimit), .int (nI ktoG_4), .int (nI kfromG_5), .int kkindG_6, .int knumberG_7, .int ksignG_8, .int kfaultG_9, .int kplaceG_10, .long kwordG_11, .int ktoldG_12, .ref know, .ref kread, .ref kkept, .ref ksnaps, .ref kaside, .ref kname, .ref kreadName, .ref kkeptName, .ref kisKept, .ref konces, .int (nI ksnapMany), .int khasCells, .ref kpoured, .ref kfar, .ref ksides, .int (nI ksideMany), .int kwayDays, .int khasWay, .ref klines, .ref kmet, .int (nI kmetMany), .ref ksunk, .ref ktrying, .int (nI ksunkMany), .int ksending, .int kfleets, .ref ktext, .int (nI ktexts), .int kseed, .ref kline, .ref kwritten, .int (nI klineMany), .int khasWritten, .ref knode, .int (nI knodes), .int (nI konesMany), .int (nI kwithin), .int (nI ktop)])), (ktape, .inl (ky 0, 940, .inl ktapeF))] H := hP
  have hD : va_D A [(kline, .inl (ky 0, 160, .inl klineF)), (o, .inr (12, [.int kthrown, .ref ktape, .int (nI ktaped), .int (nI ksize), .int (nI klimit), .int (nI ktoG_4), .int (nI kfromG_5), .int kkindG_6, .int knumberG_7, .int ksignG_8, .int kfaultG_9, .int kplaceG_10, .long kwordG_11, .int ktoldG_12, .ref know, .ref kread, .ref kkept, .ref ksnaps, .ref kaside, .ref kname, .ref kreadName, .ref kkeptName, .ref kisKept, .ref konces, .int (nI ksnapMany), .int khasCells, .ref kpoured, .ref kfar, .ref ksides, .int (nI ksideMany), .int kwayDays, .int khasWay, .ref klines, .ref kmet, .int (nI kmetMany), .ref ksunk, .ref ktrying, .int (nI ksunkMany), .int ksending, .int kfleets, .ref ktext, .int (nI ktexts), .int kseed, .ref kline, .ref kwritten, .int (nI klineMany), .int khasWritten, .ref knode, .int (nI knodes), .int (nI konesMany), .int (nI kwithin), .int (nI ktop)])), (ktape, .inl (ky 0, 940, .inl ktapeF))] := hD
  rcases p13 with ⟨rfl, t16, t17, t18, t19, t20, t21⟩ | ⟨rfl, t22, t23, t24⟩
  · refine r_call_i (wr := [(ktape, .inl (ky 0, 940, .inl ktapeF))]) (va_runV (As := [.int (nI (aq + 1)), .int (nI 1)]) (rest := []) ⟨hx, hb, hml, hown, hts⟩ (c_x_keep1 l dC dI ky H.size o kthrown ktape ktaped ksize klimit ktoG_4 kfromG_5 kkindG_6 knumberG_7 ksignG_8 kfaultG_9 kplaceG_10 kwordG_11 ktoldG_12 know kread kkept ksnaps kaside kname kreadName kkeptName kisKept konces ksnapMany khasCells kpoured kfar ksides ksideMany kwayDays khasWay klines kmet kmetMany ksunk ktrying ksunkMany ksending kfleets ktext ktexts kseed kline kwritten klineMany khasWritten knode knodes konesMany kwithin ktop klineF (aq + 1) iv_ko_0 iv_ko_1 iv_ko_2 p14 p15 iv_ko_5 iv_ko_6 iv_ko_7 iv_ko_8 iv_ko_9 iv_ko_10 iv_ko_11 iv_ko_12 iv_ko_13 iv_ko_14 (lf_g_readStir_1 aq ha)) (cwV 2 hts gX12_readStir_X12_keep rfl rfl rfl (by decide +kernel) ⟨(Nat.le_of_ble_eq_true rfl), (Nat.le_of_ble_eq_true rfl)⟩) (pre_UV hK hP hD [1, 0] (by decide) rfl (ci := 12) (q0 := 1) rfl rfl) rfl rfl hl.1 rfl (lv_room (Nat.le_of_ble_eq_true rfl)) dX12_readStir_12 ⟨(Nat.le_of_ble_eq_true rfl), (Nat.le_of_ble_eq_true rfl)⟩) hP hD hS hA [1, 0] [2] rfl rfl (by decide) (by decide) (fun r27 u25 H locs p26 hP hD hS => ?_)
    obtain ⟨klineG_28, rfl⟩ : ∃ z, z = u25 := ⟨_, rfl⟩
    try dsimp only at p26
    obtain ⟨p29, p30⟩ := p26
    refine W.widen (k := 0) (n := 0) (Nat.le_of_ble_eq_true rfl) (Nat.le_of_ble_eq_true rfl) ?_
    have hP : va_P (dC, dI) vwCl [(ktape, .inl (ky 0, 940, .inl ktapeF)), (o, .inr (12, [.int kthrown, .ref ktape, .int (nI ktaped), .int (nI ksize), .int (nI klimit), .int (nI ktoG_4), .int (nI kfromG_5), .int kkindG_6, .int knumberG_7, .int ksignG_8, .int kfaultG_9, .int kplaceG_10, .long kwordG_11, .int ktoldG_12, .ref know, .ref kread, .ref kkept, .ref ksnaps, .ref kaside, .ref kname, .ref kreadName, .ref kkeptName, .ref kisKept, .ref konces, .int (nI ksnapMany), .int khasCells, .ref kpoured, .ref kfar, .ref ksides, .int (nI ksideMany), .int kwayDays, .int khasWay, .ref klines, .ref kmet, .int (nI kmetMany), .ref ksunk, .ref ktrying, .int (nI ksunkMany), .int ksending, .int kfleets, .ref ktext, .int (nI ktexts), .int kseed, .ref kline, .ref kwritten, .int (nI klineMany), .int khasWritten, .ref knode, .int (nI knodes), .int (nI konesMany), .int (nI kwithin), .int (nI ktop)])), (kline, .inl (ky 0, 160, .inl klineG_28))] H := hP
    have hD : va_D A [(ktape, .inl (ky 0, 940, .inl ktapeF)), (o, .inr (12, [.int kthrown, .ref ktape, .int (nI ktaped), .int (nI ksize), .int (nI klimit), .int (nI ktoG_4), .int (nI kfromG_5), .int kkindG_6, .int knumberG_7, .int ksignG_8, .int kfaultG_9, .int kplaceG_10, .long kwordG_11, .int ktoldG_12, .ref know, .ref kread, .ref kkept, .ref ksnaps, .ref kaside, .ref kname, .ref kreadName, .ref kkeptName, .ref kisKept, .ref konces, .int (nI ksnapMany), .int khasCells, .ref kpoured, .ref kfar, .ref ksides, .int (nI ksideMany), .int kwayDays, .int khasWay, .ref klines, .ref kmet, .int (nI kmetMany), .ref ksunk, .ref ktrying, .int (nI ksunkMany), .int ksending, .int kfleets, .ref ktext, .int (nI ktexts), .int kseed, .ref kline, .ref kwritten, .int (nI klineMany), .int khasWritten, .ref knode, .int (nI knodes), .int (nI konesMany), .int (nI kwithin), .int (nI ktop)])), (kline, .inl (ky 0, 160, .inl klineG_28))] := hD
    subst p29
    refine lv_if_eq (tgt := 56) hx hb dX12_readStir_15 (by decide) (fun c31 => absurd c31 (by decide)) (fun c31 => ?_)
    refine lv_aload_n hx hb dX12_readStir_18 rfl (lv_at hl 0 rfl) ?_
    refine lv_iload_n hx hb dX12_readStir_19 rfl (lv_at hl 1 rfl) ?_
    refine lv_iconst (v := nI 2) hx hb dX12_readStir_20 (by decide) ?_
    refine lv_iadd hx hb dX12_readStir_21 ?_
    refine r_ti (nI (aq + 2)) (nI_add _ _) ?_
    refine lv_aload_n hx hb dX12_readStir_22 rfl (lv_at hl 0 rfl) ?_
    refine lv_iconst (v := nI 0) hx hb dX12_readStir_23 (by decide) ?_
    refine lv_iconst (v := nI 5) hx hb dX12_readStir_24 (by decide) ?_
    refine r_call_i (wr := [(kline, .inl (ky 0, 160, .inl klineG_28))]) (va_runV (As := [.int (nI 0), .int (nI 5)]) (rest := [.int (nI (aq + 2)), .ref o]) ⟨hx, hb, hml, hown, hts⟩ (c_g_readNumber l dC dI ky H.size bt o kthrown ktape ktaped ksize klimit ktoG_4 kfromG_5 kkindG_6 knumberG_7 ksignG_8 kfaultG_9 kplaceG_10 kwordG_11 ktoldG_12 know kread kkept ksnaps kaside kname kreadName kkeptName kisKept konces ksnapMany khasCells kpoured kfar ksides ksideMany kwayDays khasWay klines kmet kmetMany ksunk ktrying ksunkMany ksending kfleets ktext ktexts kseed kline kwritten klineMany khasWritten knode knodes konesMany kwithin ktop ktapeF (tT bt ksize klimit hp) 0 5 iv_ko_0 iv_ko_1 iv_ko_2 p14 p15 iv_ko_5 iv_ko_6 iv_ko_7 iv_ko_8 iv_ko_9 iv_ko_10 iv_ko_11 iv_ko_12 iv_ko_13 iv_ko_14 hTM (lf_g_readStir_2) (lf_g_readStir_3) t17) (cwV 2 hts gX12_readStir_X12_readNumber rfl rfl rfl (by decide +kernel) ⟨(Nat.le_of_ble_eq_true rfl), (Nat.le_of_ble_eq_true rfl)⟩) (pre_UV hK hP hD [1, 0] (by decide) rfl (ci := 12) (q0 := 1) rfl rfl) rfl rfl hl.1 rfl (lv_room (Nat.le_of_ble_eq_true rfl)) dX12_readStir_25 ⟨(Nat.le_of_ble_eq_true rfl), (Nat.le_of_ble_eq_true rfl)⟩) hP hD hS hA [1, 0] [2] rfl rfl (by decide) (by decide) (fun r34 u32 H locs p33 hP hD hS => ?_)
    obtain ⟨ktoG_35, kfromG_36, kkindG_37, knumberG_38, ksignG_39, kfaultG_40, kplaceG_41, kwordG_42, ktoldG_43⟩ := u32
    try dsimp only at p33
    obtain ⟨p44, p45, p46⟩ := p33
    refine W.widen (k := 0) (n := 0) (Nat.le_of_ble_eq_true rfl) (Nat.le_of_ble_eq_true rfl) ?_
    have hP : va_P (dC, dI) vwCl [(kline, .inl (ky 0, 160, .inl klineG_28)), (o, .inr (12, [.int kthrown, .ref ktape, .int (nI ktaped), .int (nI ksize), .int (nI klimit), .int (nI ktoG_35), .int (nI kfromG_36), .int kkindG_37, .int knumberG_38, .int ksignG_39, .int kfaultG_40, .int kplaceG_41, .long kwordG_42, .int ktoldG_43, .ref know, .ref kread, .ref kkept, .ref ksnaps, .ref kaside, .ref kname, .ref kreadName, .ref kkeptName, .ref kisKept, .ref konces, .int (nI ksnapMany), .int khasCells, .ref kpoured, .ref kfar, .ref ksides, .int (nI ksideMany), .int kwayDays, .int khasWay, .ref klines, .ref kmet, .int (nI kmetMany), .ref ksunk, .ref ktrying, .int (nI ksunkMany), .int ksending, .int kfleets, .ref ktext, .int (nI ktexts), .int kseed, .ref kline, .ref kwritten, .int (nI klineMany), .int khasWritten, .ref knode, .int (nI knodes), .int (nI konesMany), .int (nI kwithin), .int (nI ktop)])), (ktape, .inl (ky 0, 940, .inl ktapeF))] H := hP
    have hD : va_D A [(kline, .inl (ky 0, 160, .inl klineG_28)), (o, .inr (12, [.int kthrown, .ref ktape, .int (nI ktaped), .int (nI ksize), .int (nI klimit), .int (nI ktoG_35), .int (nI kfromG_36), .int kkindG_37, .int knumberG_38, .int ksignG_39, .int kfaultG_40, .int kplaceG_41, .long kwordG_42, .int ktoldG_43, .ref know, .ref kread, .ref kkept, .ref ksnaps, .ref kaside, .ref kname, .ref kreadName, .ref kkeptName, .ref kisKept, .ref konces, .int (nI ksnapMany), .int khasCells, .ref kpoured, .ref kfar, .ref ksides, .int (nI ksideMany), .int kwayDays, .int khasWay, .ref klines, .ref kmet, .int (nI kmetMany), .ref ksunk, .ref ktrying, .int (nI ksunkMany), .int ksending, .int kfleets, .ref ktext, .int (nI ktexts), .int kseed, .ref kline, .ref kwritten, .int (nI klineMany), .int khasWritten, .ref knode, .int (nI knodes), .int (nI konesMany), .int (nI kwithin), .int (nI ktop)])), (ktape, .inl (ky 0, 940, .inl ktapeF))] := hD
    rcases p44 with ⟨rfl, t47, t48, t49, t50, t51, t52, t53⟩ | ⟨rfl, t54, t55, t56⟩
    · refine r_call_i (wr := [(ktape, .inl (ky 0, 940, .inl ktapeF))]) (va_runV (As := [.int (nI (aq + 2)), .int (nI 1)]) (rest := []) ⟨hx, hb, hml, hown, hts⟩ (c_x_keep1 l dC dI ky H.size o kthrown ktape ktaped ksize klimit ktoG_35 kfromG_36 kkindG_37 knumberG_38 ksignG_39 kfaultG_40 kplaceG_41 kwordG_42 ktoldG_43 know kread kkept ksnaps kaside kname kreadName kkeptName kisKept konces ksnapMany khasCells kpoured kfar ksides ksideMany kwayDays khasWay klines kmet kmetMany ksunk ktrying ksunkMany ksending kfleets ktext ktexts kseed kline kwritten klineMany khasWritten knode knodes konesMany kwithin ktop klineG_28 (aq + 2) iv_ko_0 iv_ko_1 iv_ko_2 p45 p46 iv_ko_5 iv_ko_6 iv_ko_7 iv_ko_8 iv_ko_9 iv_ko_10 iv_ko_11 iv_ko_12 iv_ko_13 iv_ko_14 (lf_g_readStir_4 klineF aq ktoldG_12 klineG_28 ha t18 t19 p30)) (cwV 2 hts gX12_readStir_X12_keep rfl rfl rfl (by decide +kernel) ⟨(Nat.le_of_ble_eq_true rfl), (Nat.le_of_ble_eq_true rfl)⟩) (pre_UV hK hP hD [1, 0] (by decide) rfl (ci := 12) (q0 := 1) rfl rfl) rfl rfl hl.1 rfl (lv_room (Nat.le_of_ble_eq_true rfl)) dX12_readStir_28 ⟨(Nat.le_of_ble_eq_true rfl), (Nat.le_of_ble_eq_true rfl)⟩) hP hD hS hA [1, 0] [2] rfl rfl (by decide) (by decide) (fun r59 u57 H locs p58 hP hD hS => ?_)
      obtain ⟨klineG_60, rfl⟩ : ∃ z, z = u57 := ⟨_, rfl⟩
      try dsimp only at p58
      obtain ⟨p61, p62⟩ := p58
      refine W.widen (k := 0) (n := 0) (Nat.le_of_ble_eq_true rfl) (Nat.le_of_ble_eq_true rfl) ?_
      have hP : va_P (dC, dI) vwCl [(ktape, .inl (ky 0, 940, .inl ktapeF)), (o, .inr (12, [.int kthrown, .ref ktape, .int (nI ktaped), .int (nI ksize), .int (nI klimit), .int (nI ktoG_35), .int (nI kfromG_36), .int kkindG_37, .int knumberG_38, .int ksignG_39, .int kfaultG_40, .int kplaceG_41, .long kwordG_42, .int ktoldG_43, .ref know, .ref kread, .ref kkept, .ref ksnaps, .ref kaside, .ref kname, .ref kreadName, .ref kkeptName, .ref kisKept, .ref konces, .int (nI ksnapMany), .int khasCells, .ref kpoured, .ref kfar, .ref ksides, .int (nI ksideMany), .int kwayDays, .int khasWay, .ref klines, .ref kmet, .int (nI kmetMany), .ref ksunk, .ref ktrying, .int (nI ksunkMany), .int ksending, .int kfleets, .ref ktext, .int (nI ktexts), .int kseed, .ref kline, .ref kwritten, .int (nI klineMany), .int khasWritten, .ref knode, .int (nI knodes), .int (nI konesMany), .int (nI kwithin), .int (nI ktop)])), (kline, .inl (ky 0, 160, .inl klineG_60))] H := hP
      have hD : va_D A [(ktape, .inl (ky 0, 940, .inl ktapeF)), (o, .inr (12, [.int kthrown, .ref ktape, .int (nI ktaped), .int (nI ksize), .int (nI klimit), .int (nI ktoG_35), .int (nI kfromG_36), .int kkindG_37, .int knumberG_38, .int ksignG_39, .int kfaultG_40, .int kplaceG_41, .long kwordG_42, .int ktoldG_43, .ref know, .ref kread, .ref kkept, .ref ksnaps, .ref kaside, .ref kname, .ref kreadName, .ref kkeptName, .ref kisKept, .ref konces, .int (nI ksnapMany), .int khasCells, .ref kpoured, .ref kfar, .ref ksides, .int (nI ksideMany), .int kwayDays, .int khasWay, .ref klines, .ref kmet, .int (nI kmetMany), .ref ksunk, .ref ktrying, .int (nI ksunkMany), .int ksending, .int kfleets, .ref ktext, .int (nI ktexts), .int kseed, .ref kline, .ref kwritten, .int (nI klineMany), .int khasWritten, .ref knode, .int (nI knodes), .int (nI konesMany), .int (nI kwithin), .int (nI ktop)])), (kline, .inl (ky 0, 160, .inl klineG_60))] := hD
      subst p61
      refine lv_if_eq (tgt := 56) hx hb dX12_readStir_31 (by decide) (fun c63 => absurd c63 (by decide)) (fun c63 => ?_)
      refine lv_aload_n hx hb dX12_readStir_34 rfl (lv_at hl 0 rfl) ?_
      refine lv_iload_n hx hb dX12_readStir_35 rfl (lv_at hl 1 rfl) ?_
      refine lv_iconst (v := nI 3) hx hb dX12_readStir_36 (by decide) ?_
      refine lv_iadd hx hb dX12_readStir_37 ?_
      refine r_ti (nI (aq + 3)) (nI_add _ _) ?_
      refine lv_aload_n hx hb dX12_readStir_38 rfl (lv_at hl 0 rfl) ?_
      refine lv_bipush (v := nI 10) hx hb dX12_readStir_39 (by decide) ?_
      refine lv_bipush (v := nI 11) hx hb dX12_readStir_41 (by decide) ?_
      refine r_call_i (wr := [(kline, .inl (ky 0, 160, .inl klineG_60))]) (va_runV (As := [.int (nI 10), .int (nI 11)]) (rest := [.int (nI (aq + 3)), .ref o]) ⟨hx, hb, hml, hown, hts⟩ (c_g_oneOf10 l dC dI ky H.size bt o kthrown ktape ktaped ksize klimit ktoG_35 kfromG_36 kkindG_37 knumberG_38 ksignG_39 kfaultG_40 kplaceG_41 kwordG_42 ktoldG_43 know kread kkept ksnaps kaside kname kreadName kkeptName kisKept konces ksnapMany khasCells kpoured kfar ksides ksideMany kwayDays khasWay klines kmet kmetMany ksunk ktrying ksunkMany ksending kfleets ktext ktexts kseed kline kwritten klineMany khasWritten knode knodes konesMany kwithin ktop ktapeF (tT bt ksize klimit (tT bt ksize klimit hp)) iv_ko_0 iv_ko_1 iv_ko_2 p45 p46 iv_ko_5 iv_ko_6 iv_ko_7 iv_ko_8 iv_ko_9 iv_ko_10 iv_ko_11 iv_ko_12 iv_ko_13 iv_ko_14 hTM t51) (cwV 2 hts gX12_readStir_X12_readOneOf rfl rfl rfl (by decide +kernel) ⟨(Nat.le_of_ble_eq_true rfl), (Nat.le_of_ble_eq_true rfl)⟩) (pre_UV hK hP hD [1, 0] (by decide) rfl (ci := 12) (q0 := 1) rfl rfl) rfl rfl hl.1 rfl (lv_room (Nat.le_of_ble_eq_true rfl)) dX12_readStir_43 ⟨(Nat.le_of_ble_eq_true rfl), (Nat.le_of_ble_eq_true rfl)⟩) hP hD hS hA [1, 0] [2] rfl rfl (by decide) (by decide) (fun r66 u64 H locs p65 hP hD hS => ?_)
      obtain ⟨ktoG_67, kfromG_68, kkindG_69, knumberG_70, ksignG_71, kfaultG_72, kplaceG_73, kwordG_74, ktoldG_75⟩ := u64
      try dsimp only at p65
      obtain ⟨p76, p77, p78⟩ := p65
      refine W.widen (k := 0) (n := 0) (Nat.le_of_ble_eq_true rfl) (Nat.le_of_ble_eq_true rfl) ?_
      have hP : va_P (dC, dI) vwCl [(kline, .inl (ky 0, 160, .inl klineG_60)), (o, .inr (12, [.int kthrown, .ref ktape, .int (nI ktaped), .int (nI ksize), .int (nI klimit), .int (nI ktoG_67), .int (nI kfromG_68), .int kkindG_69, .int knumberG_70, .int ksignG_71, .int kfaultG_72, .int kplaceG_73, .long kwordG_74, .int ktoldG_75, .ref know, .ref kread, .ref kkept, .ref ksnaps, .ref kaside, .ref kname, .ref kreadName, .ref kkeptName, .ref kisKept, .ref konces, .int (nI ksnapMany), .int khasCells, .ref kpoured, .ref kfar, .ref ksides, .int (nI ksideMany), .int kwayDays, .int khasWay, .ref klines, .ref kmet, .int (nI kmetMany), .ref ksunk, .ref ktrying, .int (nI ksunkMany), .int ksending, .int kfleets, .ref ktext, .int (nI ktexts), .int kseed, .ref kline, .ref kwritten, .int (nI klineMany), .int khasWritten, .ref knode, .int (nI knodes), .int (nI konesMany), .int (nI kwithin), .int (nI ktop)])), (ktape, .inl (ky 0, 940, .inl ktapeF))] H := hP
      have hD : va_D A [(kline, .inl (ky 0, 160, .inl klineG_60)), (o, .inr (12, [.int kthrown, .ref ktape, .int (nI ktaped), .int (nI ksize), .int (nI klimit), .int (nI ktoG_67), .int (nI kfromG_68), .int kkindG_69, .int knumberG_70, .int ksignG_71, .int kfaultG_72, .int kplaceG_73, .long kwordG_74, .int ktoldG_75, .ref know, .ref kread, .ref kkept, .ref ksnaps, .ref kaside, .ref kname, .ref kreadName, .ref kkeptName, .ref kisKept, .ref konces, .int (nI ksnapMany), .int khasCells, .ref kpoured, .ref kfar, .ref ksides, .int (nI ksideMany), .int kwayDays, .int khasWay, .ref klines, .ref kmet, .int (nI kmetMany), .ref ksunk, .ref ktrying, .int (nI ksunkMany), .int ksending, .int kfleets, .ref ktext, .int (nI ktexts), .int kseed, .ref kline, .ref kwritten, .int (nI klineMany), .int khasWritten, .ref knode, .int (nI knodes), .int (nI konesMany), .int (nI kwithin), .int (nI ktop)])), (ktape, .inl (ky 0, 940, .inl ktapeF))] := hD
      rcases p76 with ⟨rfl, t79, t80, t81, t82, t83, t84⟩ | ⟨rfl, t85, t86, t87⟩
      · refine r_call_i (wr := [(ktape, .inl (ky 0, 940, .inl ktapeF))]) (va_runV (As := [.int (nI (aq + 3)), .int (nI 1)]) (rest := []) ⟨hx, hb, hml, hown, hts⟩ (c_x_keep1 l dC dI ky H.size o kthrown ktape ktaped ksize klimit ktoG_67 kfromG_68 kkindG_69 knumberG_70 ksignG_71 kfaultG_72 kplaceG_73 kwordG_74 ktoldG_75 know kread kkept ksnaps kaside kname kreadName kkeptName kisKept konces ksnapMany khasCells kpoured kfar ksides ksideMany kwayDays khasWay klines kmet kmetMany ksunk ktrying ksunkMany ksending kfleets ktext ktexts kseed kline kwritten klineMany khasWritten knode knodes konesMany kwithin ktop klineG_60 (aq + 3) iv_ko_0 iv_ko_1 iv_ko_2 p77 p78 iv_ko_5 iv_ko_6 iv_ko_7 iv_ko_8 iv_ko_9 iv_ko_10 iv_ko_11 iv_ko_12 iv_ko_13 iv_ko_14 (lf_g_readStir_5 bt ksize klimit kto kfrom kkind knumber ksign kword ktapeF klineF hp aq ktoG_4 kfromG_5 kkindG_6 knumberG_7 ksignG_8 kwordG_11 ktoldG_12 klineG_28 ktoG_35 kfromG_36 kkindG_37 knumberG_38 ksignG_39 kwordG_42 ktoldG_43 klineG_60 ktoG_67 kfromG_68 kkindG_69 knumberG_70 ksignG_71 kwordG_74 iv_ko_1 iv_ko_2 iv_ko_3 iv_ko_4 hTM ha hMT p14 p15 t16 t17 t18 t19 p30 p45 p46 t47 t48 t49 t50 t51 p62 p77 p78 t79 t80)) (cwV 2 hts gX12_readStir_X12_keep rfl rfl rfl (by decide +kernel) ⟨(Nat.le_of_ble_eq_true rfl), (Nat.le_of_ble_eq_true rfl)⟩) (pre_UV hK hP hD [1, 0] (by decide) rfl (ci := 12) (q0 := 1) rfl rfl) rfl rfl hl.1 rfl (lv_room (Nat.le_of_ble_eq_true rfl)) dX12_readStir_46 ⟨(Nat.le_of_ble_eq_true rfl), (Nat.le_of_ble_eq_true rfl)⟩) hP hD hS hA [1, 0] [2] rfl rfl (by decide) (by decide) (fun r90 u88 H locs p89 hP hD hS => ?_)
        obtain ⟨klineG_91, rfl⟩ : ∃ z, z = u88 := ⟨_, rfl⟩
        try dsimp only at p89
        obtain ⟨p92, p93⟩ := p89
        refine W.widen (k := 0) (n := 0) (Nat.le_of_ble_eq_true rfl) (Nat.le_of_ble_eq_true rfl) ?_
        have hP : va_P (dC, dI) vwCl [(ktape, .inl (ky 0, 940, .inl ktapeF)), (o, .inr (12, [.int kthrown, .ref ktape, .int (nI ktaped), .int (nI ksize), .int (nI klimit), .int (nI ktoG_67), .int (nI kfromG_68), .int kkindG_69, .int knumberG_70, .int ksignG_71, .int kfaultG_72, .int kplaceG_73, .long kwordG_74, .int ktoldG_75, .ref know, .ref kread, .ref kkept, .ref ksnaps, .ref kaside, .ref kname, .ref kreadName, .ref kkeptName, .ref kisKept, .ref konces, .int (nI ksnapMany), .int khasCells, .ref kpoured, .ref kfar, .ref ksides, .int (nI ksideMany), .int kwayDays, .int khasWay, .ref klines, .ref kmet, .int (nI kmetMany), .ref ksunk, .ref ktrying, .int (nI ksunkMany), .int ksending, .int kfleets, .ref ktext, .int (nI ktexts), .int kseed, .ref kline, .ref kwritten, .int (nI klineMany), .int khasWritten, .ref knode, .int (nI knodes), .int (nI konesMany), .int (nI kwithin), .int (nI ktop)])), (kline, .inl (ky 0, 160, .inl klineG_91))] H := hP
        have hD : va_D A [(ktape, .inl (ky 0, 940, .inl ktapeF)), (o, .inr (12, [.int kthrown, .ref ktape, .int (nI ktaped), .int (nI ksize), .int (nI klimit), .int (nI ktoG_67), .int (nI kfromG_68), .int kkindG_69, .int knumberG_70, .int ksignG_71, .int kfaultG_72, .int kplaceG_73, .long kwordG_74, .int ktoldG_75, .ref know, .ref kread, .ref kkept, .ref ksnaps, .ref kaside, .ref kname, .ref kreadName, .ref kkeptName, .ref kisKept, .ref konces, .int (nI ksnapMany), .int khasCells, .ref kpoured, .ref kfar, .ref ksides, .int (nI ksideMany), .int kwayDays, .int khasWay, .ref klines, .ref kmet, .int (nI kmetMany), .ref ksunk, .ref ktrying, .int (nI ksunkMany), .int ksending, .int kfleets, .ref ktext, .int (nI ktexts), .int kseed, .ref kline, .ref kwritten, .int (nI klineMany), .int khasWritten, .ref knode, .int (nI knodes), .int (nI konesMany), .int (nI kwithin), .int (nI ktop)])), (kline, .inl (ky 0, 160, .inl klineG_91))] := hD
        subst p92
        refine lv_if_eq (tgt := 56) hx hb dX12_readStir_49 (by decide) (fun c94 => absurd c94 (by decide)) (fun c94 => ?_)
        refine lv_iconst (v := nI 1) hx hb dX12_readStir_52 (by decide) ?_
        refine lv_goto (tgt := 57) hx hb dX12_readStir_53 (by decide) ?_
        rw [hQ]
        have hP9 := hP.sub (ws' := [(o, .inr (12, [.int kthrown, .ref ktape, .int (nI ktaped), .int (nI ksize), .int (nI klimit), .int (nI ktoG_67), .int (nI kfromG_68), .int kkindG_69, .int knumberG_70, .int ksignG_71, .int kfaultG_72, .int kplaceG_73, .long kwordG_74, .int ktoldG_75, .ref know, .ref kread, .ref kkept, .ref ksnaps, .ref kaside, .ref kname, .ref kreadName, .ref kkeptName, .ref kisKept, .ref konces, .int (nI ksnapMany), .int khasCells, .ref kpoured, .ref kfar, .ref ksides, .int (nI ksideMany), .int kwayDays, .int khasWay, .ref klines, .ref kmet, .int (nI kmetMany), .ref ksunk, .ref ktrying, .int (nI ksunkMany), .int ksending, .int kfleets, .ref ktext, .int (nI ktexts), .int kseed, .ref kline, .ref kwritten, .int (nI klineMany), .int khasWritten, .ref knode, .int (nI knodes), .int (nI konesMany), .int (nI kwithin), .int (nI ktop)])), (ktape, .inl (ky 0, 940, .inl ktapeF)), (kline, .inl (ky 0, 160, .inl klineG_91))]) [1, 0, 2] rfl
        have hD9 := hD.sub (ws' := [(o, .inr (12, [.int kthrown, .ref ktape, .int (nI ktaped), .int (nI ksize), .int (nI klimit), .int (nI ktoG_67), .int (nI kfromG_68), .int kkindG_69, .int knumberG_70, .int ksignG_71, .int kfaultG_72, .int kplaceG_73, .long kwordG_74, .int ktoldG_75, .ref know, .ref kread, .ref kkept, .ref ksnaps, .ref kaside, .ref kname, .ref kreadName, .ref kkeptName, .ref kisKept, .ref konces, .int (nI ksnapMany), .int khasCells, .ref kpoured, .ref kfar, .ref ksides, .int (nI ksideMany), .int kwayDays, .int khasWay, .ref klines, .ref kmet, .int (nI kmetMany), .ref ksunk, .ref ktrying, .int (nI ksunkMany), .int ksending, .int kfleets, .ref ktext, .int (nI ktexts), .int kseed, .ref kline, .ref kwritten, .int (nI klineMany), .int khasWritten, .ref knode, .int (nI knodes), .int (nI konesMany), .int (nI kwithin), .int (nI ktop)])), (ktape, .inl (ky 0, 940, .inl ktapeF)), (kline, .inl (ky 0, 160, .inl klineG_91))]) [1, 0, 2] (by decide) rfl
        exact W.zret (v := nI 1) hx hb hr (by decide) (fun t9 ht9 hW9 => ⟨⟨nI 1, (ktoG_67, kfromG_68, kkindG_69, knumberG_70, ksignG_71, kfaultG_72, kplaceG_73, kwordG_74, ktoldG_75, klineG_91), rfl, ⟨(lf_g_readStir_6 bt ksize klimit kto kfrom kkind knumber ksign kfault kplace kword ktapeF klineF hp aq ktoG_4 kfromG_5 kkindG_6 knumberG_7 ksignG_8 kfaultG_9 kplaceG_10 kwordG_11 ktoldG_12 klineG_28 ktoG_35 kfromG_36 kkindG_37 knumberG_38 ksignG_39 kfaultG_40 kplaceG_41 kwordG_42 ktoldG_43 klineG_60 ktoG_67 kfromG_68 kkindG_69 knumberG_70 ksignG_71 kfaultG_72 kplaceG_73 kwordG_74 ktoldG_75 klineG_91 iv_ko_1 iv_ko_2 iv_ko_3 iv_ko_4 hTM ha hMT p14 p15 t16 t17 t18 t19 t20 t21 p30 p45 p46 t47 t48 t49 t50 t51 t52 t53 p62 p77 p78 t79 t80 t81 t82 t83 t84 p93), p77, p78⟩, by rw [ht9]; exact hP9, va_K.moved hW9.alike hK, hD9⟩, hS.F ht9⟩) hS.2.2 dX12_readStir_57
      · refine vp_callSi (W.runV (As := [.int (nI (aq + 3)), .int (nI 0)]) (rest := []) ⟨hx, hb, hml, hown, hts⟩ (c_x_keep0 l dC dI ky o kthrown ktape ktaped ksize klimit ktoG_67 kfromG_68 kkindG_69 knumberG_70 ksignG_71 kfaultG_72 kplaceG_73 kwordG_74 ktoldG_75 know kread kkept ksnaps kaside kname kreadName kkeptName kisKept konces ksnapMany khasCells kpoured kfar ksides ksideMany kwayDays khasWay klines kmet kmetMany ksunk ktrying ksunkMany ksending kfleets ktext ktexts kseed kline kwritten klineMany khasWritten knode knodes konesMany kwithin ktop (nI (aq + 3)) iv_ko_0 iv_ko_1 iv_ko_2 p77 p78 iv_ko_5 iv_ko_6 iv_ko_7 iv_ko_8 iv_ko_9 iv_ko_10 iv_ko_11 iv_ko_12 iv_ko_13 iv_ko_14) (cwV 2 hts gX12_readStir_X12_keep rfl rfl rfl (by decide +kernel) ⟨(Nat.le_of_ble_eq_true rfl), (Nat.le_of_ble_eq_true rfl)⟩) (pre_PV hK hP [1] rfl (ci := 12) (q0 := 1) rfl rfl) rfl rfl hl.1 rfl (lv_room (Nat.le_of_ble_eq_true rfl)) dX12_readStir_46 ⟨(Nat.le_of_ble_eq_true rfl), (Nat.le_of_ble_eq_true rfl)⟩) (fun r95 p96 => ?_)
        subst p96
        refine lv_if_eq (tgt := 56) hx hb dX12_readStir_49 (by decide) (fun c97 => ?_) (fun c97 => absurd (by decide) c97)
        refine lv_iconst (v := nI 0) hx hb dX12_readStir_56 (by decide) ?_
        rw [hQ]
        have hP9 := hP.sub (ws' := [(o, .inr (12, [.int kthrown, .ref ktape, .int (nI ktaped), .int (nI ksize), .int (nI klimit), .int (nI ktoG_67), .int (nI kfromG_68), .int kkindG_69, .int knumberG_70, .int ksignG_71, .int kfaultG_72, .int kplaceG_73, .long kwordG_74, .int ktoldG_75, .ref know, .ref kread, .ref kkept, .ref ksnaps, .ref kaside, .ref kname, .ref kreadName, .ref kkeptName, .ref kisKept, .ref konces, .int (nI ksnapMany), .int khasCells, .ref kpoured, .ref kfar, .ref ksides, .int (nI ksideMany), .int kwayDays, .int khasWay, .ref klines, .ref kmet, .int (nI kmetMany), .ref ksunk, .ref ktrying, .int (nI ksunkMany), .int ksending, .int kfleets, .ref ktext, .int (nI ktexts), .int kseed, .ref kline, .ref kwritten, .int (nI klineMany), .int khasWritten, .ref knode, .int (nI knodes), .int (nI konesMany), .int (nI kwithin), .int (nI ktop)])), (ktape, .inl (ky 0, 940, .inl ktapeF)), (kline, .inl (ky 0, 160, .inl klineG_60))]) [1, 2, 0] rfl
        have hD9 := hD.sub (ws' := [(o, .inr (12, [.int kthrown, .ref ktape, .int (nI ktaped), .int (nI ksize), .int (nI klimit), .int (nI ktoG_67), .int (nI kfromG_68), .int kkindG_69, .int knumberG_70, .int ksignG_71, .int kfaultG_72, .int kplaceG_73, .long kwordG_74, .int ktoldG_75, .ref know, .ref kread, .ref kkept, .ref ksnaps, .ref kaside, .ref kname, .ref kreadName, .ref kkeptName, .ref kisKept, .ref konces, .int (nI ksnapMany), .int khasCells, .ref kpoured, .ref kfar, .ref ksides, .int (nI ksideMany), .int kwayDays, .int khasWay, .ref klines, .ref kmet, .int (nI kmetMany), .ref ksunk, .ref ktrying, .int (nI ksunkMany), .int ksending, .int kfleets, .ref ktext, .int (nI ktexts), .int kseed, .ref kline, .ref kwritten, .int (nI klineMany), .int khasWritten, .ref knode, .int (nI knodes), .int (nI konesMany), .int (nI kwithin), .int (nI ktop)])), (ktape, .inl (ky 0, 940, .inl ktapeF)), (kline, .inl (ky 0, 160, .inl klineG_60))]) [1, 2, 0] (by decide) rfl
        exact W.zret (v := nI 0) hx hb hr (by decide) (fun t9 ht9 hW9 => ⟨⟨nI 0, (ktoG_67, kfromG_68, kkindG_69, knumberG_70, ksignG_71, kfaultG_72, kplaceG_73, kwordG_74, ktoldG_75, klineG_60), rfl, ⟨(lf_g_readStir_7 bt ksize klimit kto kfrom kkind knumber ksign kfault kplace kword ktapeF klineF hp aq ktoG_4 kfromG_5 kkindG_6 knumberG_7 ksignG_8 kfaultG_9 kplaceG_10 kwordG_11 ktoldG_12 klineG_28 ktoG_35 kfromG_36 kkindG_37 knumberG_38 ksignG_39 kfaultG_40 kplaceG_41 kwordG_42 ktoldG_43 klineG_60 ktoG_67 kfromG_68 kkindG_69 knumberG_70 ksignG_71 kfaultG_72 kplaceG_73 kwordG_74 iv_ko_1 iv_ko_2 iv_ko_3 iv_ko_4 hTM ha hMT p14 p15 t16 t17 t18 t19 t20 t21 p30 p45 p46 t47 t48 t49 t50 t51 t52 t53 p62 p77 p78 t85 t86 t87), p77, p78⟩, by rw [ht9]; exact hP9, va_K.moved hW9.alike hK, hD9⟩, hS.F ht9⟩) hS.2.2 dX12_readStir_57
    · refine vp_callSi (W.runV (As := [.int (nI (aq + 2)), .int (nI 0)]) (rest := []) ⟨hx, hb, hml, hown, hts⟩ (c_x_keep0 l dC dI ky o kthrown ktape ktaped ksize klimit ktoG_35 kfromG_36 kkindG_37 knumberG_38 ksignG_39 kfaultG_40 kplaceG_41 kwordG_42 ktoldG_43 know kread kkept ksnaps kaside kname kreadName kkeptName kisKept konces ksnapMany khasCells kpoured kfar ksides ksideMany kwayDays khasWay klines kmet kmetMany ksunk ktrying ksunkMany ksending kfleets ktext ktexts kseed kline kwritten klineMany khasWritten knode knodes konesMany kwithin ktop (nI (aq + 2)) iv_ko_0 iv_ko_1 iv_ko_2 p45 p46 iv_ko_5 iv_ko_6 iv_ko_7 iv_ko_8 iv_ko_9 iv_ko_10 iv_ko_11 iv_ko_12 iv_ko_13 iv_ko_14) (cwV 2 hts gX12_readStir_X12_keep rfl rfl rfl (by decide +kernel) ⟨(Nat.le_of_ble_eq_true rfl), (Nat.le_of_ble_eq_true rfl)⟩) (pre_PV hK hP [1] rfl (ci := 12) (q0 := 1) rfl rfl) rfl rfl hl.1 rfl (lv_room (Nat.le_of_ble_eq_true rfl)) dX12_readStir_28 ⟨(Nat.le_of_ble_eq_true rfl), (Nat.le_of_ble_eq_true rfl)⟩) (fun r98 p99 => ?_)
      subst p99
      refine lv_if_eq (tgt := 56) hx hb dX12_readStir_31 (by decide) (fun c100 => ?_) (fun c100 => absurd (by decide) c100)
      refine lv_iconst (v := nI 0) hx hb dX12_readStir_56 (by decide) ?_
      rw [hQ]
      have hP9 := hP.sub (ws' := [(o, .inr (12, [.int kthrown, .ref ktape, .int (nI ktaped), .int (nI ksize), .int (nI klimit), .int (nI ktoG_35), .int (nI kfromG_36), .int kkindG_37, .int knumberG_38, .int ksignG_39, .int kfaultG_40, .int kplaceG_41, .long kwordG_42, .int ktoldG_43, .ref know, .ref kread, .ref kkept, .ref ksnaps, .ref kaside, .ref kname, .ref kreadName, .ref kkeptName, .ref kisKept, .ref konces, .int (nI ksnapMany), .int khasCells, .ref kpoured, .ref kfar, .ref ksides, .int (nI ksideMany), .int kwayDays, .int khasWay, .ref klines, .ref kmet, .int (nI kmetMany), .ref ksunk, .ref ktrying, .int (nI ksunkMany), .int ksending, .int kfleets, .ref ktext, .int (nI ktexts), .int kseed, .ref kline, .ref kwritten, .int (nI klineMany), .int khasWritten, .ref knode, .int (nI knodes), .int (nI konesMany), .int (nI kwithin), .int (nI ktop)])), (ktape, .inl (ky 0, 940, .inl ktapeF)), (kline, .inl (ky 0, 160, .inl klineG_28))]) [1, 2, 0] rfl
      have hD9 := hD.sub (ws' := [(o, .inr (12, [.int kthrown, .ref ktape, .int (nI ktaped), .int (nI ksize), .int (nI klimit), .int (nI ktoG_35), .int (nI kfromG_36), .int kkindG_37, .int knumberG_38, .int ksignG_39, .int kfaultG_40, .int kplaceG_41, .long kwordG_42, .int ktoldG_43, .ref know, .ref kread, .ref kkept, .ref ksnaps, .ref kaside, .ref kname, .ref kreadName, .ref kkeptName, .ref kisKept, .ref konces, .int (nI ksnapMany), .int khasCells, .ref kpoured, .ref kfar, .ref ksides, .int (nI ksideMany), .int kwayDays, .int khasWay, .ref klines, .ref kmet, .int (nI kmetMany), .ref ksunk, .ref ktrying, .int (nI ksunkMany), .int ksending, .int kfleets, .ref ktext, .int (nI ktexts), .int kseed, .ref kline, .ref kwritten, .int (nI klineMany), .int khasWritten, .ref knode, .int (nI knodes), .int (nI konesMany), .int (nI kwithin), .int (nI ktop)])), (ktape, .inl (ky 0, 940, .inl ktapeF)), (kline, .inl (ky 0, 160, .inl klineG_28))]) [1, 2, 0] (by decide) rfl
      exact W.zret (v := nI 0) hx hb hr (by decide) (fun t9 ht9 hW9 => ⟨⟨nI 0, (ktoG_35, kfromG_36, kkindG_37, knumberG_38, ksignG_39, kfaultG_40, kplaceG_41, kwordG_42, ktoldG_43, klineG_28), rfl, ⟨(lf_g_readStir_8 bt ksize klimit kto kfrom kkind knumber ksign kfault kplace kword ktapeF klineF hp aq ktoG_4 kfromG_5 kkindG_6 knumberG_7 ksignG_8 kfaultG_9 kplaceG_10 kwordG_11 ktoldG_12 klineG_28 ktoG_35 kfromG_36 kkindG_37 knumberG_38 ksignG_39 kfaultG_40 kplaceG_41 kwordG_42 iv_ko_1 iv_ko_2 iv_ko_3 iv_ko_4 hTM ha hMT p14 p15 t16 t17 t18 t19 t20 t21 p30 p45 p46 t54 t55 t56), p45, p46⟩, by rw [ht9]; exact hP9, va_K.moved hW9.alike hK, hD9⟩, hS.F ht9⟩) hS.2.2 dX12_readStir_57
  · refine vp_callSi (W.runV (As := [.int (nI (aq + 1)), .int (nI 0)]) (rest := []) ⟨hx, hb, hml, hown, hts⟩ (c_x_keep0 l dC dI ky o kthrown ktape ktaped ksize klimit ktoG_4 kfromG_5 kkindG_6 knumberG_7 ksignG_8 kfaultG_9 kplaceG_10 kwordG_11 ktoldG_12 know kread kkept ksnaps kaside kname kreadName kkeptName kisKept konces ksnapMany khasCells kpoured kfar ksides ksideMany kwayDays khasWay klines kmet kmetMany ksunk ktrying ksunkMany ksending kfleets ktext ktexts kseed kline kwritten klineMany khasWritten knode knodes konesMany kwithin ktop (nI (aq + 1)) iv_ko_0 iv_ko_1 iv_ko_2 p14 p15 iv_ko_5 iv_ko_6 iv_ko_7 iv_ko_8 iv_ko_9 iv_ko_10 iv_ko_11 iv_ko_12 iv_ko_13 iv_ko_14) (cwV 2 hts gX12_readStir_X12_keep rfl rfl rfl (by decide +kernel) ⟨(Nat.le_of_ble_eq_true rfl), (Nat.le_of_ble_eq_true rfl)⟩) (pre_PV hK hP [1] rfl (ci := 12) (q0 := 1) rfl rfl) rfl rfl hl.1 rfl (lv_room (Nat.le_of_ble_eq_true rfl)) dX12_readStir_12 ⟨(Nat.le_of_ble_eq_true rfl), (Nat.le_of_ble_eq_true rfl)⟩) (fun r101 p102 => ?_)
    subst p102
    refine lv_if_eq (tgt := 56) hx hb dX12_readStir_15 (by decide) (fun c103 => ?_) (fun c103 => absurd (by decide) c103)
    refine lv_iconst (v := nI 0) hx hb dX12_readStir_56 (by decide) ?_
    rw [hQ]
    have hP9 := hP.sub (ws' := [(o, .inr (12, [.int kthrown, .ref ktape, .int (nI ktaped), .int (nI ksize), .int (nI klimit), .int (nI ktoG_4), .int (nI kfromG_5), .int kkindG_6, .int knumberG_7, .int ksignG_8, .int kfaultG_9, .int kplaceG_10, .long kwordG_11, .int ktoldG_12, .ref know, .ref kread, .ref kkept, .ref ksnaps, .ref kaside, .ref kname, .ref kreadName, .ref kkeptName, .ref kisKept, .ref konces, .int (nI ksnapMany), .int khasCells, .ref kpoured, .ref kfar, .ref ksides, .int (nI ksideMany), .int kwayDays, .int khasWay, .ref klines, .ref kmet, .int (nI kmetMany), .ref ksunk, .ref ktrying, .int (nI ksunkMany), .int ksending, .int kfleets, .ref ktext, .int (nI ktexts), .int kseed, .ref kline, .ref kwritten, .int (nI klineMany), .int khasWritten, .ref knode, .int (nI knodes), .int (nI konesMany), .int (nI kwithin), .int (nI ktop)])), (ktape, .inl (ky 0, 940, .inl ktapeF)), (kline, .inl (ky 0, 160, .inl klineF))]) [1, 2, 0] rfl
    have hD9 := hD.sub (ws' := [(o, .inr (12, [.int kthrown, .ref ktape, .int (nI ktaped), .int (nI ksize), .int (nI klimit), .int (nI ktoG_4), .int (nI kfromG_5), .int kkindG_6, .int knumberG_7, .int ksignG_8, .int kfaultG_9, .int kplaceG_10, .long kwordG_11, .int ktoldG_12, .ref know, .ref kread, .ref kkept, .ref ksnaps, .ref kaside, .ref kname, .ref kreadName, .ref kkeptName, .ref kisKept, .ref konces, .int (nI ksnapMany), .int khasCells, .ref kpoured, .ref kfar, .ref ksides, .int (nI ksideMany), .int kwayDays, .int khasWay, .ref klines, .ref kmet, .int (nI kmetMany), .ref ksunk, .ref ktrying, .int (nI ksunkMany), .int ksending, .int kfleets, .ref ktext, .int (nI ktexts), .int kseed, .ref kline, .ref kwritten, .int (nI klineMany), .int khasWritten, .ref knode, .int (nI knodes), .int (nI konesMany), .int (nI kwithin), .int (nI ktop)])), (ktape, .inl (ky 0, 940, .inl ktapeF)), (kline, .inl (ky 0, 160, .inl klineF))]) [1, 2, 0] (by decide) rfl
    exact W.zret (v := nI 0) hx hb hr (by decide) (fun t9 ht9 hW9 => ⟨⟨nI 0, (ktoG_4, kfromG_5, kkindG_6, knumberG_7, ksignG_8, kfaultG_9, kplaceG_10, kwordG_11, ktoldG_12, klineF), rfl, ⟨(lf_g_readStir_9 bt ksize klimit kto kfrom kkind knumber ksign kfault kplace kword ktapeF klineF hp aq ktoG_4 kfromG_5 kkindG_6 knumberG_7 ksignG_8 kfaultG_9 kplaceG_10 kwordG_11 iv_ko_1 iv_ko_2 iv_ko_3 iv_ko_4 hTM ha hMT p14 p15 t22 t23 t24), p14, p15⟩, by rw [ht9]; exact hP9, va_K.moved hW9.alike hK, hD9⟩, hS.F ht9⟩) hS.2.2 dX12_readStir_57
set_option maxRecDepth 20000 in
theorem lf_g_readPour_1   : 0 ≤ 10 := by
  try simp only [ia_lt, ia_le, ia_eq, ia_m1, ia_0, ia_1, ne_eq, true_and, and_true, false_and, and_false, or_false, false_or, or_true, true_or, not_true_eq_false, not_false_eq_true] at *
  all_goals omega
set_option maxRecDepth 20000 in
theorem lf_g_readPour_2   : 5 ≤ 1000 := by
  try simp only [ia_lt, ia_le, ia_eq, ia_m1, ia_0, ia_1, ne_eq, true_and, and_true, false_and, and_false, or_false, false_or, or_true, true_or, not_true_eq_false, not_false_eq_true] at *
  all_goals omega
set_option maxRecDepth 20000 in
theorem lf_g_readPour_3 (aq : Nat) (ha : aq ≤ 156) : (aq + 1) < 160 := by
  try simp only [ia_lt, ia_le, ia_eq, ia_m1, ia_0, ia_1, ne_eq, true_and, and_true, false_and, and_false, or_false, false_or, or_true, true_or, not_true_eq_false, not_false_eq_true] at *
  all_goals omega
set_option maxRecDepth 20000 in
theorem lf_g_readPour_4   : 0 ≤ 10 := by
  try simp only [ia_lt, ia_le, ia_eq, ia_m1, ia_0, ia_1, ne_eq, true_and, and_true, false_and, and_false, or_false, false_or, or_true, true_or, not_true_eq_false, not_false_eq_true] at *
  all_goals omega
set_option maxRecDepth 20000 in
theorem lf_g_readPour_5   : 5 ≤ 1000 := by
  try simp only [ia_lt, ia_le, ia_eq, ia_m1, ia_0, ia_1, ne_eq, true_and, and_true, false_and, and_false, or_false, false_or, or_true, true_or, not_true_eq_false, not_false_eq_true] at *
  all_goals omega
set_option maxRecDepth 20000 in
theorem lf_g_readPour_6 (bt : Nat → Nat) (ksize : Nat) (klimit : Nat) (kto : Nat) (kfrom : Nat) (kkind : Int32) (knumber : Int32) (ksign : Int32) (kword : Int64) (ktapeF : Nat → Int32) (klineF : Nat → Int32) (hp : Nat) (aq : Nat) (ktoG_4 : Nat) (kfromG_5 : Nat) (kkindG_6 : Int32) (knumberG_7 : Int32) (ksignG_8 : Int32) (kwordG_11 : Int64) (ktoldG_12 : Int32) (klineG_29 : Nat → Int32) (ktoG_36 : Nat) (kfromG_37 : Nat) (kkindG_38 : Int32) (knumberG_39 : Int32) (ksignG_40 : Int32) (kwordG_43 : Int64) (ktoldG_44 : Int32) (iv_ko_1 : ksize ≤ 940) (iv_ko_2 : klimit ≤ 900) (iv_ko_3 : kto ≤ ksize) (iv_ko_4 : kfrom ≤ 940) (hTM : TM bt ktapeF) (ha : aq ≤ 156) (hMT : MT bt ksize klimit hp kkind ksign kfrom kto knumber kword) (p14 : ktoG_4 ≤ ksize) (p15 : kfromG_5 ≤ 940) (t16 : pNum bt ksize klimit 0 5 hp = .ok (tN bt ksize hp)) (t17 : ktoldG_12 = nI (tN bt ksize hp)) (t18 : 0 ≤ tN bt ksize hp) (t19 : tN bt ksize hp ≤ 5) (t20 : MT bt ksize klimit (tT bt ksize klimit hp) kkindG_6 ksignG_8 kfromG_5 ktoG_4 knumberG_7 kwordG_11) (p31 : klineG_29 = upd klineF (aq + 1) ktoldG_12) (p46 : ktoG_36 ≤ ksize) (p47 : kfromG_37 ≤ 940) (t48 : pNum bt ksize klimit 0 5 (tT bt ksize klimit hp) = .ok (tN bt ksize (tT bt ksize klimit hp))) (t49 : ktoldG_44 = nI (tN bt ksize (tT bt ksize klimit hp))) (t50 : 0 ≤ tN bt ksize (tT bt ksize klimit hp)) (t51 : tN bt ksize (tT bt ksize klimit hp) ≤ 5) (t52 : MT bt ksize klimit (tT bt ksize klimit (tT bt ksize klimit hp)) kkindG_38 ksignG_40 kfromG_37 ktoG_36 knumberG_39 kwordG_43) : (aq + 2) < 160 := by
  have b_kkind := ia_b kkind
  have b_knumber := ia_b knumber
  have b_ksign := ia_b ksign
  have b_kkindG_6 := ia_b kkindG_6
  have b_knumberG_7 := ia_b knumberG_7
  have b_ksignG_8 := ia_b ksignG_8
  have b_ktoldG_12 := ia_b ktoldG_12
  have b_kkindG_38 := ia_b kkindG_38
  have b_knumberG_39 := ia_b knumberG_39
  have b_ksignG_40 := ia_b ksignG_40
  have b_ktoldG_44 := ia_b ktoldG_44
  have b_kword := Int64.toInt_lt kword
  have b_kwordG_11 := Int64.toInt_lt kwordG_11
  have b_kwordG_43 := Int64.toInt_lt kwordG_43
  try have k_0 := ia_n (tN bt ksize hp) (by first | decide | omega)
  try have k_1 := ia_n (tN bt ksize (tT bt ksize klimit hp)) (by first | decide | omega)
  try simp only [ia_lt, ia_le, ia_eq, ia_m1, ia_0, ia_1, ne_eq, true_and, and_true, false_and, and_false, or_false, false_or, or_true, true_or, not_true_eq_false, not_false_eq_true] at *
  all_goals omega
set_option maxRecDepth 20000 in
theorem lf_g_readPour_7   : 1 ≤ 10 := by
  try simp only [ia_lt, ia_le, ia_eq, ia_m1, ia_0, ia_1, ne_eq, true_and, and_true, false_and, and_false, or_false, false_or, or_true, true_or, not_true_eq_false, not_false_eq_true] at *
  all_goals omega
set_option maxRecDepth 20000 in
theorem lf_g_readPour_8   : 9 ≤ 1000 := by
  try simp only [ia_lt, ia_le, ia_eq, ia_m1, ia_0, ia_1, ne_eq, true_and, and_true, false_and, and_false, or_false, false_or, or_true, true_or, not_true_eq_false, not_false_eq_true] at *
  all_goals omega
set_option maxRecDepth 20000 in
theorem lf_g_readPour_9 (bt : Nat → Nat) (ksize : Nat) (klimit : Nat) (kto : Nat) (kfrom : Nat) (kkind : Int32) (knumber : Int32) (ksign : Int32) (kword : Int64) (ktapeF : Nat → Int32) (klineF : Nat → Int32) (hp : Nat) (aq : Nat) (ktoG_4 : Nat) (kfromG_5 : Nat) (kkindG_6 : Int32) (knumberG_7 : Int32) (ksignG_8 : Int32) (kwordG_11 : Int64) (ktoldG_12 : Int32) (klineG_29 : Nat → Int32) (ktoG_36 : Nat) (kfromG_37 : Nat) (kkindG_38 : Int32) (knumberG_39 : Int32) (ksignG_40 : Int32) (kwordG_43 : Int64) (ktoldG_44 : Int32) (klineG_61 : Nat → Int32) (ktoG_68 : Nat) (kfromG_69 : Nat) (kkindG_70 : Int32) (knumberG_71 : Int32) (ksignG_72 : Int32) (kwordG_75 : Int64) (ktoldG_76 : Int32) (iv_ko_1 : ksize ≤ 940) (iv_ko_2 : klimit ≤ 900) (iv_ko_3 : kto ≤ ksize) (iv_ko_4 : kfrom ≤ 940) (hTM : TM bt ktapeF) (ha : aq ≤ 156) (hMT : MT bt ksize klimit hp kkind ksign kfrom kto knumber kword) (p14 : ktoG_4 ≤ ksize) (p15 : kfromG_5 ≤ 940) (t16 : pNum bt ksize klimit 0 5 hp = .ok (tN bt ksize hp)) (t17 : ktoldG_12 = nI (tN bt ksize hp)) (t18 : 0 ≤ tN bt ksize hp) (t19 : tN bt ksize hp ≤ 5) (t20 : MT bt ksize klimit (tT bt ksize klimit hp) kkindG_6 ksignG_8 kfromG_5 ktoG_4 knumberG_7 kwordG_11) (p31 : klineG_29 = upd klineF (aq + 1) ktoldG_12) (p46 : ktoG_36 ≤ ksize) (p47 : kfromG_37 ≤ 940) (t48 : pNum bt ksize klimit 0 5 (tT bt ksize klimit hp) = .ok (tN bt ksize (tT bt ksize klimit hp))) (t49 : ktoldG_44 = nI (tN bt ksize (tT bt ksize klimit hp))) (t50 : 0 ≤ tN bt ksize (tT bt ksize klimit hp)) (t51 : tN bt ksize (tT bt ksize klimit hp) ≤ 5) (t52 : MT bt ksize klimit (tT bt ksize klimit (tT bt ksize klimit hp)) kkindG_38 ksignG_40 kfromG_37 ktoG_36 knumberG_39 kwordG_43) (p63 : klineG_61 = upd klineG_29 (aq + 2) ktoldG_44) (p78 : ktoG_68 ≤ ksize) (p79 : kfromG_69 ≤ 940) (t80 : pNum bt ksize klimit 1 9 (tT bt ksize klimit (tT bt ksize klimit hp)) = .ok (tN bt ksize (tT bt ksize klimit (tT bt ksize klimit hp)))) (t81 : ktoldG_76 = nI (tN bt ksize (tT bt ksize klimit (tT bt ksize klimit hp)))) (t82 : 1 ≤ tN bt ksize (tT bt ksize klimit (tT bt ksize klimit hp))) (t83 : tN bt ksize (tT bt ksize klimit (tT bt ksize klimit hp)) ≤ 9) (t84 : MT bt ksize klimit (tT bt ksize klimit (tT bt ksize klimit (tT bt ksize klimit hp))) kkindG_70 ksignG_72 kfromG_69 ktoG_68 knumberG_71 kwordG_75) : (aq + 3) < 160 := by
  have b_kkind := ia_b kkind
  have b_knumber := ia_b knumber
  have b_ksign := ia_b ksign
  have b_kkindG_6 := ia_b kkindG_6
  have b_knumberG_7 := ia_b knumberG_7
  have b_ksignG_8 := ia_b ksignG_8
  have b_ktoldG_12 := ia_b ktoldG_12
  have b_kkindG_38 := ia_b kkindG_38
  have b_knumberG_39 := ia_b knumberG_39
  have b_ksignG_40 := ia_b ksignG_40
  have b_ktoldG_44 := ia_b ktoldG_44
  have b_kkindG_70 := ia_b kkindG_70
  have b_knumberG_71 := ia_b knumberG_71
  have b_ksignG_72 := ia_b ksignG_72
  have b_ktoldG_76 := ia_b ktoldG_76
  have b_kword := Int64.toInt_lt kword
  have b_kwordG_11 := Int64.toInt_lt kwordG_11
  have b_kwordG_43 := Int64.toInt_lt kwordG_43
  have b_kwordG_75 := Int64.toInt_lt kwordG_75
  try have k_0 := ia_n (tN bt ksize hp) (by first | decide | omega)
  try have k_1 := ia_n (tN bt ksize (tT bt ksize klimit hp)) (by first | decide | omega)
  try have k_2 := ia_n (tN bt ksize (tT bt ksize klimit (tT bt ksize klimit hp))) (by first | decide | omega)
  try simp only [ia_lt, ia_le, ia_eq, ia_m1, ia_0, ia_1, ne_eq, true_and, and_true, false_and, and_false, or_false, false_or, or_true, true_or, not_true_eq_false, not_false_eq_true] at *
  all_goals omega
set_option maxRecDepth 20000 in
theorem lf_g_readPour_10 (bt : Nat → Nat) (ksize : Nat) (klimit : Nat) (kto : Nat) (kfrom : Nat) (kkind : Int32) (knumber : Int32) (ksign : Int32) (kfault : Int32) (kplace : Int32) (kword : Int64) (ktapeF : Nat → Int32) (klineF : Nat → Int32) (hp : Nat) (aq : Nat) (ktoG_4 : Nat) (kfromG_5 : Nat) (kkindG_6 : Int32) (knumberG_7 : Int32) (ksignG_8 : Int32) (kfaultG_9 : Int32) (kplaceG_10 : Int32) (kwordG_11 : Int64) (ktoldG_12 : Int32) (klineG_29 : Nat → Int32) (ktoG_36 : Nat) (kfromG_37 : Nat) (kkindG_38 : Int32) (knumberG_39 : Int32) (ksignG_40 : Int32) (kfaultG_41 : Int32) (kplaceG_42 : Int32) (kwordG_43 : Int64) (ktoldG_44 : Int32) (klineG_61 : Nat → Int32) (ktoG_68 : Nat) (kfromG_69 : Nat) (kkindG_70 : Int32) (knumberG_71 : Int32) (ksignG_72 : Int32) (kfaultG_73 : Int32) (kplaceG_74 : Int32) (kwordG_75 : Int64) (ktoldG_76 : Int32) (klineG_93 : Nat → Int32) (iv_ko_1 : ksize ≤ 940) (iv_ko_2 : klimit ≤ 900) (iv_ko_3 : kto ≤ ksize) (iv_ko_4 : kfrom ≤ 940) (hTM : TM bt ktapeF) (ha : aq ≤ 156) (hMT : MT bt ksize klimit hp kkind ksign kfrom kto knumber kword) (p14 : ktoG_4 ≤ ksize) (p15 : kfromG_5 ≤ 940) (t16 : pNum bt ksize klimit 0 5 hp = .ok (tN bt ksize hp)) (t17 : ktoldG_12 = nI (tN bt ksize hp)) (t18 : 0 ≤ tN bt ksize hp) (t19 : tN bt ksize hp ≤ 5) (t20 : MT bt ksize klimit (tT bt ksize klimit hp) kkindG_6 ksignG_8 kfromG_5 ktoG_4 knumberG_7 kwordG_11) (t21 : kfaultG_9 = kfault) (t22 : kplaceG_10 = kplace) (p31 : klineG_29 = upd klineF (aq + 1) ktoldG_12) (p46 : ktoG_36 ≤ ksize) (p47 : kfromG_37 ≤ 940) (t48 : pNum bt ksize klimit 0 5 (tT bt ksize klimit hp) = .ok (tN bt ksize (tT bt ksize klimit hp))) (t49 : ktoldG_44 = nI (tN bt ksize (tT bt ksize klimit hp))) (t50 : 0 ≤ tN bt ksize (tT bt ksize klimit hp)) (t51 : tN bt ksize (tT bt ksize klimit hp) ≤ 5) (t52 : MT bt ksize klimit (tT bt ksize klimit (tT bt ksize klimit hp)) kkindG_38 ksignG_40 kfromG_37 ktoG_36 knumberG_39 kwordG_43) (t53 : kfaultG_41 = kfaultG_9) (t54 : kplaceG_42 = kplaceG_10) (p63 : klineG_61 = upd klineG_29 (aq + 2) ktoldG_44) (p78 : ktoG_68 ≤ ksize) (p79 : kfromG_69 ≤ 940) (t80 : pNum bt ksize klimit 1 9 (tT bt ksize klimit (tT bt ksize klimit hp)) = .ok (tN bt ksize (tT bt ksize klimit (tT bt ksize klimit hp)))) (t81 : ktoldG_76 = nI (tN bt ksize (tT bt ksize klimit (tT bt ksize klimit hp)))) (t82 : 1 ≤ tN bt ksize (tT bt ksize klimit (tT bt ksize klimit hp))) (t83 : tN bt ksize (tT bt ksize klimit (tT bt ksize klimit hp)) ≤ 9) (t84 : MT bt ksize klimit (tT bt ksize klimit (tT bt ksize klimit (tT bt ksize klimit hp))) kkindG_70 ksignG_72 kfromG_69 ktoG_68 knumberG_71 kwordG_75) (t85 : kfaultG_73 = kfaultG_41) (t86 : kplaceG_74 = kplaceG_42) (p95 : klineG_93 = upd klineG_61 (aq + 3) ktoldG_76) : ((nI 1) = nI 1 ∧ ((∀ j9, j9 < aq + 1 → klineG_93 j9 = klineF j9) ∧ 0 ≤ (klineG_93 (aq + 1)).toInt ∧ (klineG_93 (aq + 1)).toInt ≤ 5 ∧ 0 ≤ (klineG_93 (aq + 2)).toInt ∧ (klineG_93 (aq + 2)).toInt ≤ 5 ∧ 1 ≤ (klineG_93 (aq + 3)).toInt ∧ (klineG_93 (aq + 3)).toInt ≤ 9 ∧ isO (bRest bt ksize klimit 16 hp) = true ∧ MT bt ksize klimit (okV (bRest bt ksize klimit 16 hp)) kkindG_70 ksignG_72 kfromG_69 ktoG_68 knumberG_71 kwordG_75 ∧ kfaultG_73 = kfault ∧ kplaceG_74 = kplace)) ∨ ((nI 1) = nI 0 ∧ (isO (bRest bt ksize klimit 16 hp) = false ∧ kfaultG_73 = nI (erA (bRest bt ksize klimit 16 hp)) ∧ kplaceG_74 = nI (erB (bRest bt ksize klimit 16 hp)))) := by
  have hX := p3_o (B := bt) (n := ksize) (m := klimit) (p := hp) (f := pNum bt ksize klimit 0 5) (g := pNum bt ksize klimit 0 5) (h := pNum bt ksize klimit 1 9) (by assumption) (by assumption) (by assumption)
  rw [← br_16] at hX
  refine Or.inl ⟨rfl, fun j9 hj9 => ?_, ?_, ?_, ?_, ?_, ?_, ?_, (by rw [hX]; rfl), (by rw [hX]; assumption), (by first | rfl | assumption | (subst_vars; rfl) | (subst_vars; assumption)), (by first | rfl | assumption | (subst_vars; rfl) | (subst_vars; assumption))⟩
  · rw [p95, upd_ne (by omega), p63, upd_ne (by omega), p31, upd_ne (by omega)]
  · rw [p95, upd_ne (by omega), p63, upd_ne (by omega), p31, upd_eq]
    have b_kkind := ia_b kkind
    have b_knumber := ia_b knumber
    have b_ksign := ia_b ksign
    have b_kfault := ia_b kfault
    have b_kplace := ia_b kplace
    have b_kkindG_6 := ia_b kkindG_6
    have b_knumberG_7 := ia_b knumberG_7
    have b_ksignG_8 := ia_b ksignG_8
    have b_kfaultG_9 := ia_b kfaultG_9
    have b_kplaceG_10 := ia_b kplaceG_10
    have b_ktoldG_12 := ia_b ktoldG_12
    have b_kkindG_38 := ia_b kkindG_38
    have b_knumberG_39 := ia_b knumberG_39
    have b_ksignG_40 := ia_b ksignG_40
    have b_kfaultG_41 := ia_b kfaultG_41
    have b_kplaceG_42 := ia_b kplaceG_42
    have b_ktoldG_44 := ia_b ktoldG_44
    have b_kkindG_70 := ia_b kkindG_70
    have b_knumberG_71 := ia_b knumberG_71
    have b_ksignG_72 := ia_b ksignG_72
    have b_kfaultG_73 := ia_b kfaultG_73
    have b_kplaceG_74 := ia_b kplaceG_74
    have b_ktoldG_76 := ia_b ktoldG_76
    have b_kword := Int64.toInt_lt kword
    have b_kwordG_11 := Int64.toInt_lt kwordG_11
    have b_kwordG_43 := Int64.toInt_lt kwordG_43
    have b_kwordG_75 := Int64.toInt_lt kwordG_75
    try have k_0 := ia_n (tN bt ksize hp) (by first | decide | omega)
    try have k_1 := ia_n (tN bt ksize (tT bt ksize klimit hp)) (by first | decide | omega)
    try have k_2 := ia_n (tN bt ksize (tT bt ksize klimit (tT bt ksize klimit hp))) (by first | decide | omega)
    try have k_3 := ia_n 1 (by first | decide | omega)
    try have k_4 := ia_n 0 (by first | decide | omega)
    try have k_5 := ia_n (erA (bRest bt ksize klimit 16 hp)) (by first | decide | omega)
    try have k_6 := ia_n (erB (bRest bt ksize klimit 16 hp)) (by first | decide | omega)
    try simp only [ia_lt, ia_le, ia_eq, ia_m1, ia_0, ia_1, ne_eq, true_and, and_true, false_and, and_false, or_false, false_or, or_true, true_or, not_true_eq_false, not_false_eq_true] at *
    all_goals omega
  · rw [p95, upd_ne (by omega), p63, upd_ne (by omega), p31, upd_eq]
    have b_kkind := ia_b kkind
    have b_knumber := ia_b knumber
    have b_ksign := ia_b ksign
    have b_kfault := ia_b kfault
    have b_kplace := ia_b kplace
    have b_kkindG_6 := ia_b kkindG_6
    have b_knumberG_7 := ia_b knumberG_7
    have b_ksignG_8 := ia_b ksignG_8
    have b_kfaultG_9 := ia_b kfaultG_9
    have b_kplaceG_10 := ia_b kplaceG_10
    have b_ktoldG_12 := ia_b ktoldG_12
    have b_kkindG_38 := ia_b kkindG_38
    have b_knumberG_39 := ia_b knumberG_39
    have b_ksignG_40 := ia_b ksignG_40
    have b_kfaultG_41 := ia_b kfaultG_41
    have b_kplaceG_42 := ia_b kplaceG_42
    have b_ktoldG_44 := ia_b ktoldG_44
    have b_kkindG_70 := ia_b kkindG_70
    have b_knumberG_71 := ia_b knumberG_71
    have b_ksignG_72 := ia_b ksignG_72
    have b_kfaultG_73 := ia_b kfaultG_73
    have b_kplaceG_74 := ia_b kplaceG_74
    have b_ktoldG_76 := ia_b ktoldG_76
    have b_kword := Int64.toInt_lt kword
    have b_kwordG_11 := Int64.toInt_lt kwordG_11
    have b_kwordG_43 := Int64.toInt_lt kwordG_43
    have b_kwordG_75 := Int64.toInt_lt kwordG_75
    try have k_0 := ia_n (tN bt ksize hp) (by first | decide | omega)
    try have k_1 := ia_n (tN bt ksize (tT bt ksize klimit hp)) (by first | decide | omega)
    try have k_2 := ia_n (tN bt ksize (tT bt ksize klimit (tT bt ksize klimit hp))) (by first | decide | omega)
    try have k_3 := ia_n 1 (by first | decide | omega)
    try have k_4 := ia_n 0 (by first | decide | omega)
    try have k_5 := ia_n (erA (bRest bt ksize klimit 16 hp)) (by first | decide | omega)
    try have k_6 := ia_n (erB (bRest bt ksize klimit 16 hp)) (by first | decide | omega)
    try simp only [ia_lt, ia_le, ia_eq, ia_m1, ia_0, ia_1, ne_eq, true_and, and_true, false_and, and_false, or_false, false_or, or_true, true_or, not_true_eq_false, not_false_eq_true] at *
    all_goals omega
  · rw [p95, upd_ne (by omega), p63, upd_eq]
    have b_kkind := ia_b kkind
    have b_knumber := ia_b knumber
    have b_ksign := ia_b ksign
    have b_kfault := ia_b kfault
    have b_kplace := ia_b kplace
    have b_kkindG_6 := ia_b kkindG_6
    have b_knumberG_7 := ia_b knumberG_7
    have b_ksignG_8 := ia_b ksignG_8
    have b_kfaultG_9 := ia_b kfaultG_9
    have b_kplaceG_10 := ia_b kplaceG_10
    have b_ktoldG_12 := ia_b ktoldG_12
    have b_kkindG_38 := ia_b kkindG_38
    have b_knumberG_39 := ia_b knumberG_39
    have b_ksignG_40 := ia_b ksignG_40
    have b_kfaultG_41 := ia_b kfaultG_41
    have b_kplaceG_42 := ia_b kplaceG_42
    have b_ktoldG_44 := ia_b ktoldG_44
    have b_kkindG_70 := ia_b kkindG_70
    have b_knumberG_71 := ia_b knumberG_71
    have b_ksignG_72 := ia_b ksignG_72
    have b_kfaultG_73 := ia_b kfaultG_73
    have b_kplaceG_74 := ia_b kplaceG_74
    have b_ktoldG_76 := ia_b ktoldG_76
    have b_kword := Int64.toInt_lt kword
    have b_kwordG_11 := Int64.toInt_lt kwordG_11
    have b_kwordG_43 := Int64.toInt_lt kwordG_43
    have b_kwordG_75 := Int64.toInt_lt kwordG_75
    try have k_0 := ia_n (tN bt ksize hp) (by first | decide | omega)
    try have k_1 := ia_n (tN bt ksize (tT bt ksize klimit hp)) (by first | decide | omega)
    try have k_2 := ia_n (tN bt ksize (tT bt ksize klimit (tT bt ksize klimit hp))) (by first | decide | omega)
    try have k_3 := ia_n 1 (by first | decide | omega)
    try have k_4 := ia_n 0 (by first | decide | omega)
    try have k_5 := ia_n (erA (bRest bt ksize klimit 16 hp)) (by first | decide | omega)
    try have k_6 := ia_n (erB (bRest bt ksize klimit 16 hp)) (by first | decide | omega)
    try simp only [ia_lt, ia_le, ia_eq, ia_m1, ia_0, ia_1, ne_eq, true_and, and_true, false_and, and_false, or_false, false_or, or_true, true_or, not_true_eq_false, not_false_eq_true] at *
    all_goals omega
  · rw [p95, upd_ne (by omega), p63, upd_eq]
    have b_kkind := ia_b kkind
    have b_knumber := ia_b knumber
    have b_ksign := ia_b ksign
    have b_kfault := ia_b kfault
    have b_kplace := ia_b kplace
    have b_kkindG_6 := ia_b kkindG_6
    have b_knumberG_7 := ia_b knumberG_7
    have b_ksignG_8 := ia_b ksignG_8
    have b_kfaultG_9 := ia_b kfaultG_9
    have b_kplaceG_10 := ia_b kplaceG_10
    have b_ktoldG_12 := ia_b ktoldG_12
    have b_kkindG_38 := ia_b kkindG_38
    have b_knumberG_39 := ia_b knumberG_39
    have b_ksignG_40 := ia_b ksignG_40
    have b_kfaultG_41 := ia_b kfaultG_41
    have b_kplaceG_42 := ia_b kplaceG_42
    have b_ktoldG_44 := ia_b ktoldG_44
    have b_kkindG_70 := ia_b kkindG_70
    have b_knumberG_71 := ia_b knumberG_71
    have b_ksignG_72 := ia_b ksignG_72
    have b_kfaultG_73 := ia_b kfaultG_73
    have b_kplaceG_74 := ia_b kplaceG_74
    have b_ktoldG_76 := ia_b ktoldG_76
    have b_kword := Int64.toInt_lt kword
    have b_kwordG_11 := Int64.toInt_lt kwordG_11
    have b_kwordG_43 := Int64.toInt_lt kwordG_43
    have b_kwordG_75 := Int64.toInt_lt kwordG_75
    try have k_0 := ia_n (tN bt ksize hp) (by first | decide | omega)
    try have k_1 := ia_n (tN bt ksize (tT bt ksize klimit hp)) (by first | decide | omega)
    try have k_2 := ia_n (tN bt ksize (tT bt ksize klimit (tT bt ksize klimit hp))) (by first | decide | omega)
    try have k_3 := ia_n 1 (by first | decide | omega)
    try have k_4 := ia_n 0 (by first | decide | omega)
    try have k_5 := ia_n (erA (bRest bt ksize klimit 16 hp)) (by first | decide | omega)
    try have k_6 := ia_n (erB (bRest bt ksize klimit 16 hp)) (by first | decide | omega)
    try simp only [ia_lt, ia_le, ia_eq, ia_m1, ia_0, ia_1, ne_eq, true_and, and_true, false_and, and_false, or_false, false_or, or_true, true_or, not_true_eq_false, not_false_eq_true] at *
    all_goals omega
  · rw [p95, upd_eq]
    have b_kkind := ia_b kkind
    have b_knumber := ia_b knumber
    have b_ksign := ia_b ksign
    have b_kfault := ia_b kfault
    have b_kplace := ia_b kplace
    have b_kkindG_6 := ia_b kkindG_6
    have b_knumberG_7 := ia_b knumberG_7
    have b_ksignG_8 := ia_b ksignG_8
    have b_kfaultG_9 := ia_b kfaultG_9
    have b_kplaceG_10 := ia_b kplaceG_10
    have b_ktoldG_12 := ia_b ktoldG_12
    have b_kkindG_38 := ia_b kkindG_38
    have b_knumberG_39 := ia_b knumberG_39
    have b_ksignG_40 := ia_b ksignG_40
    have b_kfaultG_41 := ia_b kfaultG_41
    have b_kplaceG_42 := ia_b kplaceG_42
    have b_ktoldG_44 := ia_b ktoldG_44
    have b_kkindG_70 := ia_b kkindG_70
    have b_knumberG_71 := ia_b knumberG_71
    have b_ksignG_72 := ia_b ksignG_72
    have b_kfaultG_73 := ia_b kfaultG_73
    have b_kplaceG_74 := ia_b kplaceG_74
    have b_ktoldG_76 := ia_b ktoldG_76
    have b_kword := Int64.toInt_lt kword
    have b_kwordG_11 := Int64.toInt_lt kwordG_11
    have b_kwordG_43 := Int64.toInt_lt kwordG_43
    have b_kwordG_75 := Int64.toInt_lt kwordG_75
    try have k_0 := ia_n (tN bt ksize hp) (by first | decide | omega)
    try have k_1 := ia_n (tN bt ksize (tT bt ksize klimit hp)) (by first | decide | omega)
    try have k_2 := ia_n (tN bt ksize (tT bt ksize klimit (tT bt ksize klimit hp))) (by first | decide | omega)
    try have k_3 := ia_n 1 (by first | decide | omega)
    try have k_4 := ia_n 0 (by first | decide | omega)
    try have k_5 := ia_n (erA (bRest bt ksize klimit 16 hp)) (by first | decide | omega)
    try have k_6 := ia_n (erB (bRest bt ksize klimit 16 hp)) (by first | decide | omega)
    try simp only [ia_lt, ia_le, ia_eq, ia_m1, ia_0, ia_1, ne_eq, true_and, and_true, false_and, and_false, or_false, false_or, or_true, true_or, not_true_eq_false, not_false_eq_true] at *
    all_goals omega
  · rw [p95, upd_eq]
    have b_kkind := ia_b kkind
    have b_knumber := ia_b knumber
    have b_ksign := ia_b ksign
    have b_kfault := ia_b kfault
    have b_kplace := ia_b kplace
    have b_kkindG_6 := ia_b kkindG_6
    have b_knumberG_7 := ia_b knumberG_7
    have b_ksignG_8 := ia_b ksignG_8
    have b_kfaultG_9 := ia_b kfaultG_9
    have b_kplaceG_10 := ia_b kplaceG_10
    have b_ktoldG_12 := ia_b ktoldG_12
    have b_kkindG_38 := ia_b kkindG_38
    have b_knumberG_39 := ia_b knumberG_39
    have b_ksignG_40 := ia_b ksignG_40
    have b_kfaultG_41 := ia_b kfaultG_41
    have b_kplaceG_42 := ia_b kplaceG_42
    have b_ktoldG_44 := ia_b ktoldG_44
    have b_kkindG_70 := ia_b kkindG_70
    have b_knumberG_71 := ia_b knumberG_71
    have b_ksignG_72 := ia_b ksignG_72
    have b_kfaultG_73 := ia_b kfaultG_73
    have b_kplaceG_74 := ia_b kplaceG_74
    have b_ktoldG_76 := ia_b ktoldG_76
    have b_kword := Int64.toInt_lt kword
    have b_kwordG_11 := Int64.toInt_lt kwordG_11
    have b_kwordG_43 := Int64.toInt_lt kwordG_43
    have b_kwordG_75 := Int64.toInt_lt kwordG_75
    try have k_0 := ia_n (tN bt ksize hp) (by first | decide | omega)
    try have k_1 := ia_n (tN bt ksize (tT bt ksize klimit hp)) (by first | decide | omega)
    try have k_2 := ia_n (tN bt ksize (tT bt ksize klimit (tT bt ksize klimit hp))) (by first | decide | omega)
    try have k_3 := ia_n 1 (by first | decide | omega)
    try have k_4 := ia_n 0 (by first | decide | omega)
    try have k_5 := ia_n (erA (bRest bt ksize klimit 16 hp)) (by first | decide | omega)
    try have k_6 := ia_n (erB (bRest bt ksize klimit 16 hp)) (by first | decide | omega)
    try simp only [ia_lt, ia_le, ia_eq, ia_m1, ia_0, ia_1, ne_eq, true_and, and_true, false_and, and_false, or_false, false_or, or_true, true_or, not_true_eq_false, not_false_eq_true] at *
    all_goals omega
set_option maxRecDepth 20000 in
theorem lf_g_readPour_11 (bt : Nat → Nat) (ksize : Nat) (klimit : Nat) (kto : Nat) (kfrom : Nat) (kkind : Int32) (knumber : Int32) (ksign : Int32) (kfault : Int32) (kplace : Int32) (kword : Int64) (ktapeF : Nat → Int32) (klineF : Nat → Int32) (hp : Nat) (aq : Nat) (ktoG_4 : Nat) (kfromG_5 : Nat) (kkindG_6 : Int32) (knumberG_7 : Int32) (ksignG_8 : Int32) (kfaultG_9 : Int32) (kplaceG_10 : Int32) (kwordG_11 : Int64) (ktoldG_12 : Int32) (klineG_29 : Nat → Int32) (ktoG_36 : Nat) (kfromG_37 : Nat) (kkindG_38 : Int32) (knumberG_39 : Int32) (ksignG_40 : Int32) (kfaultG_41 : Int32) (kplaceG_42 : Int32) (kwordG_43 : Int64) (ktoldG_44 : Int32) (klineG_61 : Nat → Int32) (ktoG_68 : Nat) (kfromG_69 : Nat) (kkindG_70 : Int32) (knumberG_71 : Int32) (ksignG_72 : Int32) (kfaultG_73 : Int32) (kplaceG_74 : Int32) (kwordG_75 : Int64) (iv_ko_1 : ksize ≤ 940) (iv_ko_2 : klimit ≤ 900) (iv_ko_3 : kto ≤ ksize) (iv_ko_4 : kfrom ≤ 940) (hTM : TM bt ktapeF) (ha : aq ≤ 156) (hMT : MT bt ksize klimit hp kkind ksign kfrom kto knumber kword) (p14 : ktoG_4 ≤ ksize) (p15 : kfromG_5 ≤ 940) (t16 : pNum bt ksize klimit 0 5 hp = .ok (tN bt ksize hp)) (t17 : ktoldG_12 = nI (tN bt ksize hp)) (t18 : 0 ≤ tN bt ksize hp) (t19 : tN bt ksize hp ≤ 5) (t20 : MT bt ksize klimit (tT bt ksize klimit hp) kkindG_6 ksignG_8 kfromG_5 ktoG_4 knumberG_7 kwordG_11) (t21 : kfaultG_9 = kfault) (t22 : kplaceG_10 = kplace) (p31 : klineG_29 = upd klineF (aq + 1) ktoldG_12) (p46 : ktoG_36 ≤ ksize) (p47 : kfromG_37 ≤ 940) (t48 : pNum bt ksize klimit 0 5 (tT bt ksize klimit hp) = .ok (tN bt ksize (tT bt ksize klimit hp))) (t49 : ktoldG_44 = nI (tN bt ksize (tT bt ksize klimit hp))) (t50 : 0 ≤ tN bt ksize (tT bt ksize klimit hp)) (t51 : tN bt ksize (tT bt ksize klimit hp) ≤ 5) (t52 : MT bt ksize klimit (tT bt ksize klimit (tT bt ksize klimit hp)) kkindG_38 ksignG_40 kfromG_37 ktoG_36 knumberG_39 kwordG_43) (t53 : kfaultG_41 = kfaultG_9) (t54 : kplaceG_42 = kplaceG_10) (p63 : klineG_61 = upd klineG_29 (aq + 2) ktoldG_44) (p78 : ktoG_68 ≤ ksize) (p79 : kfromG_69 ≤ 940) (t87 : pNum bt ksize klimit 1 9 (tT bt ksize klimit (tT bt ksize klimit hp)) = .error (nER bt ksize klimit (tT bt ksize klimit (tT bt ksize klimit hp)), tF bt ksize klimit (tT bt ksize klimit (tT bt ksize klimit hp)))) (t88 : kfaultG_73 = nI (nER bt ksize klimit (tT bt ksize klimit (tT bt ksize klimit hp)))) (t89 : kplaceG_74 = nI (tF bt ksize klimit (tT bt ksize klimit (tT bt ksize klimit hp)))) : ((nI 0) = nI 1 ∧ ((∀ j9, j9 < aq + 1 → klineG_61 j9 = klineF j9) ∧ 0 ≤ (klineG_61 (aq + 1)).toInt ∧ (klineG_61 (aq + 1)).toInt ≤ 5 ∧ 0 ≤ (klineG_61 (aq + 2)).toInt ∧ (klineG_61 (aq + 2)).toInt ≤ 5 ∧ 1 ≤ (klineG_61 (aq + 3)).toInt ∧ (klineG_61 (aq + 3)).toInt ≤ 9 ∧ isO (bRest bt ksize klimit 16 hp) = true ∧ MT bt ksize klimit (okV (bRest bt ksize klimit 16 hp)) kkindG_70 ksignG_72 kfromG_69 ktoG_68 knumberG_71 kwordG_75 ∧ kfaultG_73 = kfault ∧ kplaceG_74 = kplace)) ∨ ((nI 0) = nI 0 ∧ (isO (bRest bt ksize klimit 16 hp) = false ∧ kfaultG_73 = nI (erA (bRest bt ksize klimit 16 hp)) ∧ kplaceG_74 = nI (erB (bRest bt ksize klimit 16 hp)))) := by
  rw [br_16, p3_3 (by assumption) (by assumption) (by assumption)]
  exact Or.inr ⟨rfl, rfl, ‹_›, ‹_›⟩
set_option maxRecDepth 20000 in
theorem lf_g_readPour_12 (bt : Nat → Nat) (ksize : Nat) (klimit : Nat) (kto : Nat) (kfrom : Nat) (kkind : Int32) (knumber : Int32) (ksign : Int32) (kfault : Int32) (kplace : Int32) (kword : Int64) (ktapeF : Nat → Int32) (klineF : Nat → Int32) (hp : Nat) (aq : Nat) (ktoG_4 : Nat) (kfromG_5 : Nat) (kkindG_6 : Int32) (knumberG_7 : Int32) (ksignG_8 : Int32) (kfaultG_9 : Int32) (kplaceG_10 : Int32) (kwordG_11 : Int64) (ktoldG_12 : Int32) (klineG_29 : Nat → Int32) (ktoG_36 : Nat) (kfromG_37 : Nat) (kkindG_38 : Int32) (knumberG_39 : Int32) (ksignG_40 : Int32) (kfaultG_41 : Int32) (kplaceG_42 : Int32) (kwordG_43 : Int64) (iv_ko_1 : ksize ≤ 940) (iv_ko_2 : klimit ≤ 900) (iv_ko_3 : kto ≤ ksize) (iv_ko_4 : kfrom ≤ 940) (hTM : TM bt ktapeF) (ha : aq ≤ 156) (hMT : MT bt ksize klimit hp kkind ksign kfrom kto knumber kword) (p14 : ktoG_4 ≤ ksize) (p15 : kfromG_5 ≤ 940) (t16 : pNum bt ksize klimit 0 5 hp = .ok (tN bt ksize hp)) (t17 : ktoldG_12 = nI (tN bt ksize hp)) (t18 : 0 ≤ tN bt ksize hp) (t19 : tN bt ksize hp ≤ 5) (t20 : MT bt ksize klimit (tT bt ksize klimit hp) kkindG_6 ksignG_8 kfromG_5 ktoG_4 knumberG_7 kwordG_11) (t21 : kfaultG_9 = kfault) (t22 : kplaceG_10 = kplace) (p31 : klineG_29 = upd klineF (aq + 1) ktoldG_12) (p46 : ktoG_36 ≤ ksize) (p47 : kfromG_37 ≤ 940) (t55 : pNum bt ksize klimit 0 5 (tT bt ksize klimit hp) = .error (nER bt ksize klimit (tT bt ksize klimit hp), tF bt ksize klimit (tT bt ksize klimit hp))) (t56 : kfaultG_41 = nI (nER bt ksize klimit (tT bt ksize klimit hp))) (t57 : kplaceG_42 = nI (tF bt ksize klimit (tT bt ksize klimit hp))) : ((nI 0) = nI 1 ∧ ((∀ j9, j9 < aq + 1 → klineG_29 j9 = klineF j9) ∧ 0 ≤ (klineG_29 (aq + 1)).toInt ∧ (klineG_29 (aq + 1)).toInt ≤ 5 ∧ 0 ≤ (klineG_29 (aq + 2)).toInt ∧ (klineG_29 (aq + 2)).toInt ≤ 5 ∧ 1 ≤ (klineG_29 (aq + 3)).toInt ∧ (klineG_29 (aq + 3)).toInt ≤ 9 ∧ isO (bRest bt ksize klimit 16 hp) = true ∧ MT bt ksize klimit (okV (bRest bt ksize klimit 16 hp)) kkindG_38 ksignG_40 kfromG_37 ktoG_36 knumberG_39 kwordG_43 ∧ kfaultG_41 = kfault ∧ kplaceG_42 = kplace)) ∨ ((nI 0) = nI 0 ∧ (isO (bRest bt ksize klimit 16 hp) = false ∧ kfaultG_41 = nI (erA (bRest bt ksize klimit 16 hp)) ∧ kplaceG_42 = nI (erB (bRest bt ksize klimit 16 hp)))) := by
  rw [br_16, p3_2 (by assumption) (by assumption)]
  exact Or.inr ⟨rfl, rfl, ‹_›, ‹_›⟩
set_option maxRecDepth 20000 in
theorem lf_g_readPour_13 (bt : Nat → Nat) (ksize : Nat) (klimit : Nat) (kto : Nat) (kfrom : Nat) (kkind : Int32) (knumber : Int32) (ksign : Int32) (kfault : Int32) (kplace : Int32) (kword : Int64) (ktapeF : Nat → Int32) (klineF : Nat → Int32) (hp : Nat) (aq : Nat) (ktoG_4 : Nat) (kfromG_5 : Nat) (kkindG_6 : Int32) (knumberG_7 : Int32) (ksignG_8 : Int32) (kfaultG_9 : Int32) (kplaceG_10 : Int32) (kwordG_11 : Int64) (iv_ko_1 : ksize ≤ 940) (iv_ko_2 : klimit ≤ 900) (iv_ko_3 : kto ≤ ksize) (iv_ko_4 : kfrom ≤ 940) (hTM : TM bt ktapeF) (ha : aq ≤ 156) (hMT : MT bt ksize klimit hp kkind ksign kfrom kto knumber kword) (p14 : ktoG_4 ≤ ksize) (p15 : kfromG_5 ≤ 940) (t23 : pNum bt ksize klimit 0 5 hp = .error (nER bt ksize klimit hp, tF bt ksize klimit hp)) (t24 : kfaultG_9 = nI (nER bt ksize klimit hp)) (t25 : kplaceG_10 = nI (tF bt ksize klimit hp)) : ((nI 0) = nI 1 ∧ ((∀ j9, j9 < aq + 1 → klineF j9 = klineF j9) ∧ 0 ≤ (klineF (aq + 1)).toInt ∧ (klineF (aq + 1)).toInt ≤ 5 ∧ 0 ≤ (klineF (aq + 2)).toInt ∧ (klineF (aq + 2)).toInt ≤ 5 ∧ 1 ≤ (klineF (aq + 3)).toInt ∧ (klineF (aq + 3)).toInt ≤ 9 ∧ isO (bRest bt ksize klimit 16 hp) = true ∧ MT bt ksize klimit (okV (bRest bt ksize klimit 16 hp)) kkindG_6 ksignG_8 kfromG_5 ktoG_4 knumberG_7 kwordG_11 ∧ kfaultG_9 = kfault ∧ kplaceG_10 = kplace)) ∨ ((nI 0) = nI 0 ∧ (isO (bRest bt ksize klimit 16 hp) = false ∧ kfaultG_9 = nI (erA (bRest bt ksize klimit 16 hp)) ∧ kplaceG_10 = nI (erB (bRest bt ksize klimit 16 hp)))) := by
  rw [br_16, p3_1 (by assumption)]
  exact Or.inr ⟨rfl, rfl, ‹_›, ‹_›⟩
set_option maxHeartbeats 4000000 in
set_option maxRecDepth 100000 in
theorem c_g_readPour (l : Launch) (dC : Nat → ClassId) (dI : Nat → Nat → Nat) (ky : Nat → ClassId) (sz : Nat) (bt : Nat → Nat) (o : Nat) (kthrown : Int32) (ktape : Nat) (ktaped : Nat) (ksize : Nat) (klimit : Nat) (kto : Nat) (kfrom : Nat) (kkind : Int32) (knumber : Int32) (ksign : Int32) (kfault : Int32) (kplace : Int32) (kword : Int64) (ktold : Int32) (know : Nat) (kread : Nat) (kkept : Nat) (ksnaps : Nat) (kaside : Nat) (kname : Nat) (kreadName : Nat) (kkeptName : Nat) (kisKept : Nat) (konces : Nat) (ksnapMany : Nat) (khasCells : Int32) (kpoured : Nat) (kfar : Nat) (ksides : Nat) (ksideMany : Nat) (kwayDays : Int32) (khasWay : Int32) (klines : Nat) (kmet : Nat) (kmetMany : Nat) (ksunk : Nat) (ktrying : Nat) (ksunkMany : Nat) (ksending : Int32) (kfleets : Int32) (ktext : Nat) (ktexts : Nat) (kseed : Int32) (kline : Nat) (kwritten : Nat) (klineMany : Nat) (khasWritten : Int32) (knode : Nat) (knodes : Nat) (konesMany : Nat) (kwithin : Nat) (ktop : Nat) (ktapeF : Nat → Int32) (klineF : Nat → Int32) (hp : Nat) (aq : Nat) (iv_ko_0 : ktaped ≤ 940) (iv_ko_1 : ksize ≤ 940) (iv_ko_2 : klimit ≤ 900) (iv_ko_3 : kto ≤ ksize) (iv_ko_4 : kfrom ≤ 940) (iv_ko_5 : ksnapMany ≤ 8) (iv_ko_6 : ksideMany ≤ 36) (iv_ko_7 : kmetMany ≤ 3) (iv_ko_8 : ksunkMany ≤ 36) (iv_ko_9 : ktexts ≤ 64) (iv_ko_10 : klineMany ≤ 40) (iv_ko_11 : knodes ≤ 60) (iv_ko_12 : konesMany ≤ 20) (iv_ko_13 : kwithin ≤ 8) (iv_ko_14 : ktop ≤ 59) (hTM : TM bt ktapeF) (ha : aq ≤ 156) (hMT : MT bt ksize klimit hp kkind ksign kfrom kto knumber kword) : Met l yX12_readPour wsX12_readPour ({ frames := 3, cells := 0, slots := 0, locals := 67 }) (PcU dC dI ky [.ref o, .int (nI aq)] [(o, .inr (12, [.int kthrown, .ref ktape, .int (nI ktaped), .int (nI ksize), .int (nI klimit), .int (nI kto), .int (nI kfrom), .int kkind, .int knumber, .int ksign, .int kfault, .int kplace, .long kword, .int ktold, .ref know, .ref kread, .ref kkept, .ref ksnaps, .ref kaside, .ref kname, .ref kreadName, .ref kkeptName, .ref kisKept, .ref konces, .int (nI ksnapMany), .int khasCells, .ref kpoured, .ref kfar, .ref ksides, .int (nI ksideMany), .int kwayDays, .int khasWay, .ref klines, .ref kmet, .int (nI kmetMany), .ref ksunk, .ref ktrying, .int (nI ksunkMany), .int ksending, .int kfleets, .ref ktext, .int (nI ktexts), .int kseed, .ref kline, .ref kwritten, .int (nI klineMany), .int khasWritten, .ref knode, .int (nI knodes), .int (nI konesMany), .int (nI kwithin), .int (nI ktop)])), (ktape, .inl (ky 0, 940, .inl ktapeF)), (kline, .inl (ky 0, 160, .inl klineF))] sz) (va_Qi (fun (r : Int32) (u : Nat × Nat × Int32 × Int32 × Int32 × Int32 × Int32 × Int64 × Int32 × (Nat → Int32)) => match u with | (ktoG, kfromG, kkindG, knumberG, ksignG, kfaultG, kplaceG, kwordG, ktoldG, klineG) => ((r = nI 1 ∧ ((∀ j9, j9 < aq + 1 → klineG j9 = klineF j9) ∧ 0 ≤ (klineG (aq + 1)).toInt ∧ (klineG (aq + 1)).toInt ≤ 5 ∧ 0 ≤ (klineG (aq + 2)).toInt ∧ (klineG (aq + 2)).toInt ≤ 5 ∧ 1 ≤ (klineG (aq + 3)).toInt ∧ (klineG (aq + 3)).toInt ≤ 9 ∧ isO (bRest bt ksize klimit 16 hp) = true ∧ MT bt ksize klimit (okV (bRest bt ksize klimit 16 hp)) kkindG ksignG kfromG ktoG knumberG kwordG ∧ kfaultG = kfault ∧ kplaceG = kplace)) ∨ (r = nI 0 ∧ (isO (bRest bt ksize klimit 16 hp) = false ∧ kfaultG = nI (erA (bRest bt ksize klimit 16 hp)) ∧ kplaceG = nI (erB (bRest bt ksize klimit 16 hp))))) ∧ (ktoG ≤ ksize) ∧ (kfromG ≤ 940)) (BU dC dI ky (fun (u : Nat × Nat × Int32 × Int32 × Int32 × Int32 × Int32 × Int64 × Int32 × (Nat → Int32)) => match u with | (ktoG, kfromG, kkindG, knumberG, ksignG, kfaultG, kplaceG, kwordG, ktoldG, klineG) => [(o, .inr (12, [.int kthrown, .ref ktape, .int (nI ktaped), .int (nI ksize), .int (nI klimit), .int (nI ktoG), .int (nI kfromG), .int kkindG, .int knumberG, .int ksignG, .int kfaultG, .int kplaceG, .long kwordG, .int ktoldG, .ref know, .ref kread, .ref kkept, .ref ksnaps, .ref kaside, .ref kname, .ref kreadName, .ref kkeptName, .ref kisKept, .ref konces, .int (nI ksnapMany), .int khasCells, .ref kpoured, .ref kfar, .ref ksides, .int (nI ksideMany), .int kwayDays, .int khasWay, .ref klines, .ref kmet, .int (nI kmetMany), .ref ksunk, .ref ktrying, .int (nI ksunkMany), .int ksending, .int kfleets, .ref ktext, .int (nI ktexts), .int kseed, .ref kline, .ref kwritten, .int (nI klineMany), .int khasWritten, .ref knode, .int (nI knodes), .int (nI konesMany), .int (nI kwithin), .int (nI ktop)])), (ktape, .inl (ky 0, 940, .inl ktapeF)), (kline, .inl (ky 0, 160, .inl klineG))]) (va_A [(o, .inr (12, [.int kthrown, .ref ktape, .int (nI ktaped), .int (nI ksize), .int (nI klimit), .int (nI kto), .int (nI kfrom), .int kkind, .int knumber, .int ksign, .int kfault, .int kplace, .long kword, .int ktold, .ref know, .ref kread, .ref kkept, .ref ksnaps, .ref kaside, .ref kname, .ref kreadName, .ref kkeptName, .ref kisKept, .ref konces, .int (nI ksnapMany), .int khasCells, .ref kpoured, .ref kfar, .ref ksides, .int (nI ksideMany), .int kwayDays, .int khasWay, .ref klines, .ref kmet, .int (nI kmetMany), .ref ksunk, .ref ktrying, .int (nI ksunkMany), .int ksending, .int kfleets, .ref ktext, .int (nI ktexts), .int kseed, .ref kline, .ref kwritten, .int (nI klineMany), .int khasWritten, .ref knode, .int (nI knodes), .int (nI konesMany), .int (nI kwithin), .int (nI ktop)])), (ktape, .inl (ky 0, 940, .inl ktapeF)), (kline, .inl (ky 0, 160, .inl klineF))] sz)) (va_A [(o, .inr (12, [.int kthrown, .ref ktape, .int (nI ktaped), .int (nI ksize), .int (nI klimit), .int (nI kto), .int (nI kfrom), .int kkind, .int knumber, .int ksign, .int kfault, .int kplace, .long kword, .int ktold, .ref know, .ref kread, .ref kkept, .ref ksnaps, .ref kaside, .ref kname, .ref kreadName, .ref kkeptName, .ref kisKept, .ref konces, .int (nI ksnapMany), .int khasCells, .ref kpoured, .ref kfar, .ref ksides, .int (nI ksideMany), .int kwayDays, .int khasWay, .ref klines, .ref kmet, .int (nI kmetMany), .ref ksunk, .ref ktrying, .int (nI ksunkMany), .int ksending, .int kfleets, .ref ktext, .int (nI ktexts), .int kseed, .ref kline, .ref kwritten, .int (nI klineMany), .int khasWritten, .ref knode, .int (nI knodes), .int (nI konesMany), .int (nI kwithin), .int (nI ktop)])), (ktape, .inl (ky 0, 940, .inl ktapeF)), (kline, .inl (ky 0, 160, .inl klineF))] sz)) 0 0 (va_A [(o, .inr (12, [.int kthrown, .ref ktape, .int (nI ktaped), .int (nI ksize), .int (nI klimit), .int (nI kto), .int (nI kfrom), .int kkind, .int knumber, .int ksign, .int kfault, .int kplace, .long kword, .int ktold, .ref know, .ref kread, .ref kkept, .ref ksnaps, .ref kaside, .ref kname, .ref kreadName, .ref kkeptName, .ref kisKept, .ref konces, .int (nI ksnapMany), .int khasCells, .ref kpoured, .ref kfar, .ref ksides, .int (nI ksideMany), .int kwayDays, .int khasWay, .ref klines, .ref kmet, .int (nI kmetMany), .ref ksunk, .ref ktrying, .int (nI ksunkMany), .int ksending, .int kfleets, .ref ktext, .int (nI ktexts), .int kseed, .ref kline, .ref kwritten, .int (nI klineMany), .int khasWritten, .ref knode, .int (nI knodes), .int (nI konesMany), .int (nI kwithin), .int (nI ktop)])), (ktape, .inl (ky 0, 940, .inl ktapeF)), (kline, .inl (ky 0, 160, .inl klineF))] sz) := by
  refine Met.ofW (cc := cX12_readPour) (maxL := 2) (ret := (some .boolean)) (by decide) rfl ?_
  intro p e s m args below meth c s₁ B hml hv
  obtain ⟨rfl, hsz, hP, hK, hD0⟩ := hv
  have hx := B.exec
  have hb := B.bytes
  have hr := B.returns
  have hts := atoms_spec (ws := wsX12_readPour) B.pre
  have hown : s.vm.findClass RX12 = some m.cls := findClass_of_methodNamed B.named
  have hlocks := B.notSynchronized
  subst hsz
  have hD := hD0.self (sz := s.heap.size)
  generalize hAe : va_A [(o, .inr (12, [.int kthrown, .ref ktape, .int (nI ktaped), .int (nI ksize), .int (nI klimit), .int (nI kto), .int (nI kfrom), .int kkind, .int knumber, .int ksign, .int kfault, .int kplace, .long kword, .int ktold, .ref know, .ref kread, .ref kkept, .ref ksnaps, .ref kaside, .ref kname, .ref kreadName, .ref kkeptName, .ref kisKept, .ref konces, .int (nI ksnapMany), .int khasCells, .ref kpoured, .ref kfar, .ref ksides, .int (nI ksideMany), .int kwayDays, .int khasWay, .ref klines, .ref kmet, .int (nI kmetMany), .ref ksunk, .ref ktrying, .int (nI ksunkMany), .int ksending, .int kfleets, .ref ktext, .int (nI ktexts), .int kseed, .ref kline, .ref kwritten, .int (nI klineMany), .int khasWritten, .ref knode, .int (nI knodes), .int (nI konesMany), .int (nI kwithin), .int (nI ktop)])), (ktape, .inl (ky 0, 940, .inl ktapeF)), (kline, .inl (ky 0, 160, .inl klineF))] s.heap.size = A at hD ⊢
  have hA : ∀ q : Nat, s.heap.size ≤ q → A q := fun q h => by rw [← hAe]; exact Or.inr h
  have hS : va_S A s.heap s.heap [] := va_S.rf
  have hl := lv_entry ([.ref o, .int (nI aq)]) (n := 2) (Nat.le_of_ble_eq_true rfl)
  rw [lg_entry_eq]
  generalize (lg_sl ([.ref o, .int (nI aq)]) ++ List.replicate (2 - (lg_sl ([.ref o, .int (nI aq)])).length) Slot.unset).toArray = ls at hl ⊢
  have hl : lv_has ls 2 [(0, .ref o), (1, .int (nI aq))] := hl
  refine q_name (fun Q hQ => ?_)
  generalize ([.ref o, .int (nI aq)] : List Value).toArray = args at hts hQ ⊢
  refine lv_aload_n hx hb dX12_readPour_0 rfl (lv_at hl 0 rfl) ?_
  refine lv_iload_n hx hb dX12_readPour_1 rfl (lv_at hl 1 rfl) ?_
  refine lv_iconst (v := nI 1) hx hb dX12_readPour_2 (by decide) ?_
  refine lv_iadd hx hb dX12_readPour_3 ?_
  refine r_ti (nI (aq + 1)) (nI_add _ _) ?_
  refine lv_aload_n hx hb dX12_readPour_4 rfl (lv_at hl 0 rfl) ?_
  refine lv_iconst (v := nI 0) hx hb dX12_readPour_5 (by decide) ?_
  refine lv_iconst (v := nI 5) hx hb dX12_readPour_6 (by decide) ?_
  refine r_call_i (wr := [(kline, .inl (ky 0, 160, .inl klineF))]) (va_runV (As := [.int (nI 0), .int (nI 5)]) (rest := [.int (nI (aq + 1)), .ref o]) ⟨hx, hb, hml, hown, hts⟩ (c_g_readNumber l dC dI ky s.heap.size bt o kthrown ktape ktaped ksize klimit kto kfrom kkind knumber ksign kfault kplace kword ktold know kread kkept ksnaps kaside kname kreadName kkeptName kisKept konces ksnapMany khasCells kpoured kfar ksides ksideMany kwayDays khasWay klines kmet kmetMany ksunk ktrying ksunkMany ksending kfleets ktext ktexts kseed kline kwritten klineMany khasWritten knode knodes konesMany kwithin ktop ktapeF hp 0 5 iv_ko_0 iv_ko_1 iv_ko_2 iv_ko_3 iv_ko_4 iv_ko_5 iv_ko_6 iv_ko_7 iv_ko_8 iv_ko_9 iv_ko_10 iv_ko_11 iv_ko_12 iv_ko_13 iv_ko_14 hTM (lf_g_readPour_1) (lf_g_readPour_2) hMT) (cwV 2 hts gX12_readPour_X12_readNumber rfl rfl rfl (by decide +kernel) ⟨(Nat.le_of_ble_eq_true rfl), (Nat.le_of_ble_eq_true rfl)⟩) (pre_UV hK hP hD [0, 1] (by decide) rfl (ci := 12) (q0 := 0) rfl rfl) rfl rfl hl.1 rfl (lv_room (Nat.le_of_ble_eq_true rfl)) dX12_readPour_7 ⟨(Nat.le_of_ble_eq_true rfl), (Nat.le_of_ble_eq_true rfl)⟩) hP hD hS hA [0, 1] [2] rfl rfl (by decide) (by decide) (fun r3 u1 H locs p2 hP hD hS => ?_)
  obtain ⟨ktoG_4, kfromG_5, kkindG_6, knumberG_7, ksignG_8, kfaultG_9, kplaceG_10, kwordG_11, ktoldG_12⟩ := u1
  try dsimp only at p2
  obtain ⟨p13, p14, p15⟩ := p2
  refine W.widen (k := 0) (n := 0) (Nat.le_of_ble_eq_true rfl) (Nat.le_of_ble_eq_true rfl) ?_
  have hP : va_P (dC, dI) vwCl [(kline, .inl (ky 0, 160, .inl klineF)), (o, .inr (12, [.int kthrown, .ref ktape, .int (nI ktaped), .int (nI ksize), .int (nI klimit), .int (nI ktoG_4), .int (nI kfromG_5), .int kkindG_6, .int knumberG_7, .int ksignG_8, .int kfaultG_9, .int kplaceG_10, .long kwordG_11, .int ktoldG_12, .ref know, .ref kread, .ref kkept, .ref ksnaps, .ref kaside, .ref kname, .ref kreadName, .ref kkeptName, .ref kisKept, .ref konces, .int (nI ksnapMany), .int khasCells, .ref kpoured, .ref kfar, .ref ksides, .int (nI ksideMany), .int kwayDays, .int khasWay, .ref klines, .ref kmet, .int (nI kmetMany), .ref ksunk, .ref ktrying, .int (nI ksunkMany), .int ksending, .int kfleets, .ref ktext, .int (nI ktexts), .int kseed, .ref kline, .ref kwritten, .int (nI klineMany), .int khasWritten, .ref knode, .int (nI knodes), .int (nI konesMany), .int (nI kwithin), .int (nI ktop)])), (ktape, .inl (ky 0, 940, .inl ktapeF))] H := hP
  have hD : va_D A [(kline, .inl (ky 0, 160, .inl klineF)), (o, .inr (12, [.int kthrown, .ref ktape, .int (nI ktaped), .int (nI ksize), .int (nI klimit), .int (nI ktoG_4), .int (nI kfromG_5), .int kkindG_6, .int knumberG_7, .int ksignG_8, .int kfaultG_9, .int kplaceG_10, .long kwordG_11, .int ktoldG_12, .ref know, .ref kread, .ref kkept, .ref ksnaps, .ref kaside, .ref kname, .ref kreadName, .ref kkeptName, .ref kisKept, .ref konces, .int (nI ksnapMany), .int khasCells, .ref kpoured, .ref kfar, .ref ksides, .int (nI ksideMany), .int kwayDays, .int khasWay, .ref klines, .ref kmet, .int (nI kmetMany), .ref ksunk, .ref ktrying, .int (nI ksunkMany), .int ksending, .int kfleets, .ref ktext, .int (nI ktexts), .int kseed, .ref kline, .ref kwritten, .int (nI klineMany), .int khasWritten, .ref knode, .int (nI knodes), .int (nI konesMany), .int (nI kwithin), .int (nI ktop)])), (ktape, .inl (ky 0, 940, .inl ktapeF))] := hD
  rcases p13 with ⟨rfl, t16, t17, t18, t19, t20, t21, t22⟩ | ⟨rfl, t23, t24, t25⟩
  · refine r_call_i (wr := [(ktape, .inl (ky 0, 940, .inl ktapeF))]) (va_runV (As := [.int (nI (aq + 1)), .int (nI 1)]) (rest := []) ⟨hx, hb, hml, hown, hts⟩ (c_x_keep1 l dC dI ky H.size o kthrown ktape ktaped ksize klimit ktoG_4 kfromG_5 kkindG_6 knumberG_7 ksignG_8 kfaultG_9 kplaceG_10 kwordG_11 ktoldG_12 know kread kkept ksnaps kaside kname kreadName kkeptName kisKept konces ksnapMany khasCells kpoured kfar ksides ksideMany kwayDays khasWay klines kmet kmetMany ksunk ktrying ksunkMany ksending kfleets ktext ktexts kseed kline kwritten klineMany khasWritten knode knodes konesMany kwithin ktop klineF (aq + 1) iv_ko_0 iv_ko_1 iv_ko_2 p14 p15 iv_ko_5 iv_ko_6 iv_ko_7 iv_ko_8 iv_ko_9 iv_ko_10 iv_ko_11 iv_ko_12 iv_ko_13 iv_ko_14 (lf_g_readPour_3 aq ha)) (cwV 2 hts gX12_readPour_X12_keep rfl rfl rfl (by decide +kernel) ⟨(Nat.le_of_ble_eq_true rfl), (Nat.le_of_ble_eq_true rfl)⟩) (pre_UV hK hP hD [1, 0] (by decide) rfl (ci := 12) (q0 := 1) rfl rfl) rfl rfl hl.1 rfl (lv_room (Nat.le_of_ble_eq_true rfl)) dX12_readPour_10 ⟨(Nat.le_of_ble_eq_true rfl), (Nat.le_of_ble_eq_true rfl)⟩) hP hD hS hA [1, 0] [2] rfl rfl (by decide) (by decide) (fun r28 u26 H locs p27 hP hD hS => ?_)
    obtain ⟨klineG_29, rfl⟩ : ∃ z, z = u26 := ⟨_, rfl⟩
    try dsimp only at p27
    obtain ⟨p30, p31⟩ := p27
    refine W.widen (k := 0) (n := 0) (Nat.le_of_ble_eq_true rfl) (Nat.le_of_ble_eq_true rfl) ?_
    have hP : va_P (dC, dI) vwCl [(ktape, .inl (ky 0, 940, .inl ktapeF)), (o, .inr (12, [.int kthrown, .ref ktape, .int (nI ktaped), .int (nI ksize), .int (nI klimit), .int (nI ktoG_4), .int (nI kfromG_5), .int kkindG_6, .int knumberG_7, .int ksignG_8, .int kfaultG_9, .int kplaceG_10, .long kwordG_11, .int ktoldG_12, .ref know, .ref kread, .ref kkept, .ref ksnaps, .ref kaside, .ref kname, .ref kreadName, .ref kkeptName, .ref kisKept, .ref konces, .int (nI ksnapMany), .int khasCells, .ref kpoured, .ref kfar, .ref ksides, .int (nI ksideMany), .int kwayDays, .int khasWay, .ref klines, .ref kmet, .int (nI kmetMany), .ref ksunk, .ref ktrying, .int (nI ksunkMany), .int ksending, .int kfleets, .ref ktext, .int (nI ktexts), .int kseed, .ref kline, .ref kwritten, .int (nI klineMany), .int khasWritten, .ref knode, .int (nI knodes), .int (nI konesMany), .int (nI kwithin), .int (nI ktop)])), (kline, .inl (ky 0, 160, .inl klineG_29))] H := hP
    have hD : va_D A [(ktape, .inl (ky 0, 940, .inl ktapeF)), (o, .inr (12, [.int kthrown, .ref ktape, .int (nI ktaped), .int (nI ksize), .int (nI klimit), .int (nI ktoG_4), .int (nI kfromG_5), .int kkindG_6, .int knumberG_7, .int ksignG_8, .int kfaultG_9, .int kplaceG_10, .long kwordG_11, .int ktoldG_12, .ref know, .ref kread, .ref kkept, .ref ksnaps, .ref kaside, .ref kname, .ref kreadName, .ref kkeptName, .ref kisKept, .ref konces, .int (nI ksnapMany), .int khasCells, .ref kpoured, .ref kfar, .ref ksides, .int (nI ksideMany), .int kwayDays, .int khasWay, .ref klines, .ref kmet, .int (nI kmetMany), .ref ksunk, .ref ktrying, .int (nI ksunkMany), .int ksending, .int kfleets, .ref ktext, .int (nI ktexts), .int kseed, .ref kline, .ref kwritten, .int (nI klineMany), .int khasWritten, .ref knode, .int (nI knodes), .int (nI konesMany), .int (nI kwithin), .int (nI ktop)])), (kline, .inl (ky 0, 160, .inl klineG_29))] := hD
    subst p30
    refine lv_if_eq (tgt := 53) hx hb dX12_readPour_13 (by decide) (fun c32 => absurd c32 (by decide)) (fun c32 => ?_)
    refine lv_aload_n hx hb dX12_readPour_16 rfl (lv_at hl 0 rfl) ?_
    refine lv_iload_n hx hb dX12_readPour_17 rfl (lv_at hl 1 rfl) ?_
    refine lv_iconst (v := nI 2) hx hb dX12_readPour_18 (by decide) ?_
    refine lv_iadd hx hb dX12_readPour_19 ?_
    refine r_ti (nI (aq + 2)) (nI_add _ _) ?_
    refine lv_aload_n hx hb dX12_readPour_20 rfl (lv_at hl 0 rfl) ?_
    refine lv_iconst (v := nI 0) hx hb dX12_readPour_21 (by decide) ?_
    refine lv_iconst (v := nI 5) hx hb dX12_readPour_22 (by decide) ?_
    refine r_call_i (wr := [(kline, .inl (ky 0, 160, .inl klineG_29))]) (va_runV (As := [.int (nI 0), .int (nI 5)]) (rest := [.int (nI (aq + 2)), .ref o]) ⟨hx, hb, hml, hown, hts⟩ (c_g_readNumber l dC dI ky H.size bt o kthrown ktape ktaped ksize klimit ktoG_4 kfromG_5 kkindG_6 knumberG_7 ksignG_8 kfaultG_9 kplaceG_10 kwordG_11 ktoldG_12 know kread kkept ksnaps kaside kname kreadName kkeptName kisKept konces ksnapMany khasCells kpoured kfar ksides ksideMany kwayDays khasWay klines kmet kmetMany ksunk ktrying ksunkMany ksending kfleets ktext ktexts kseed kline kwritten klineMany khasWritten knode knodes konesMany kwithin ktop ktapeF (tT bt ksize klimit hp) 0 5 iv_ko_0 iv_ko_1 iv_ko_2 p14 p15 iv_ko_5 iv_ko_6 iv_ko_7 iv_ko_8 iv_ko_9 iv_ko_10 iv_ko_11 iv_ko_12 iv_ko_13 iv_ko_14 hTM (lf_g_readPour_4) (lf_g_readPour_5) t20) (cwV 2 hts gX12_readPour_X12_readNumber rfl rfl rfl (by decide +kernel) ⟨(Nat.le_of_ble_eq_true rfl), (Nat.le_of_ble_eq_true rfl)⟩) (pre_UV hK hP hD [1, 0] (by decide) rfl (ci := 12) (q0 := 1) rfl rfl) rfl rfl hl.1 rfl (lv_room (Nat.le_of_ble_eq_true rfl)) dX12_readPour_23 ⟨(Nat.le_of_ble_eq_true rfl), (Nat.le_of_ble_eq_true rfl)⟩) hP hD hS hA [1, 0] [2] rfl rfl (by decide) (by decide) (fun r35 u33 H locs p34 hP hD hS => ?_)
    obtain ⟨ktoG_36, kfromG_37, kkindG_38, knumberG_39, ksignG_40, kfaultG_41, kplaceG_42, kwordG_43, ktoldG_44⟩ := u33
    try dsimp only at p34
    obtain ⟨p45, p46, p47⟩ := p34
    refine W.widen (k := 0) (n := 0) (Nat.le_of_ble_eq_true rfl) (Nat.le_of_ble_eq_true rfl) ?_
    have hP : va_P (dC, dI) vwCl [(kline, .inl (ky 0, 160, .inl klineG_29)), (o, .inr (12, [.int kthrown, .ref ktape, .int (nI ktaped), .int (nI ksize), .int (nI klimit), .int (nI ktoG_36), .int (nI kfromG_37), .int kkindG_38, .int knumberG_39, .int ksignG_40, .int kfaultG_41, .int kplaceG_42, .long kwordG_43, .int ktoldG_44, .ref know, .ref kread, .ref kkept, .ref ksnaps, .ref kaside, .ref kname, .ref kreadName, .ref kkeptName, .ref kisKept, .ref konces, .int (nI ksnapMany), .int khasCells, .ref kpoured, .ref kfar, .ref ksides, .int (nI ksideMany), .int kwayDays, .int khasWay, .ref klines, .ref kmet, .int (nI kmetMany), .ref ksunk, .ref ktrying, .int (nI ksunkMany), .int ksending, .int kfleets, .ref ktext, .int (nI ktexts), .int kseed, .ref kline, .ref kwritten, .int (nI klineMany), .int khasWritten, .ref knode, .int (nI knodes), .int (nI konesMany), .int (nI kwithin), .int (nI ktop)])), (ktape, .inl (ky 0, 940, .inl ktapeF))] H := hP
    have hD : va_D A [(kline, .inl (ky 0, 160, .inl klineG_29)), (o, .inr (12, [.int kthrown, .ref ktape, .int (nI ktaped), .int (nI ksize), .int (nI klimit), .int (nI ktoG_36), .int (nI kfromG_37), .int kkindG_38, .int knumberG_39, .int ksignG_40, .int kfaultG_41, .int kplaceG_42, .long kwordG_43, .int ktoldG_44, .ref know, .ref kread, .ref kkept, .ref ksnaps, .ref kaside, .ref kname, .ref kreadName, .ref kkeptName, .ref kisKept, .ref konces, .int (nI ksnapMany), .int khasCells, .ref kpoured, .ref kfar, .ref ksides, .int (nI ksideMany), .int kwayDays, .int khasWay, .ref klines, .ref kmet, .int (nI kmetMany), .ref ksunk, .ref ktrying, .int (nI ksunkMany), .int ksending, .int kfleets, .ref ktext, .int (nI ktexts), .int kseed, .ref kline, .ref kwritten, .int (nI klineMany), .int khasWritten, .ref knode, .int (nI knodes), .int (nI konesMany), .int (nI kwithin), .int (nI ktop)])), (ktape, .inl (ky 0, 940, .inl ktapeF))] := hD
    rcases p45 with ⟨rfl, t48, t49, t50, t51, t52, t53, t54⟩ | ⟨rfl, t55, t56, t57⟩
    · refine r_call_i (wr := [(ktape, .inl (ky 0, 940, .inl ktapeF))]) (va_runV (As := [.int (nI (aq + 2)), .int (nI 1)]) (rest := []) ⟨hx, hb, hml, hown, hts⟩ (c_x_keep1 l dC dI ky H.size o kthrown ktape ktaped ksize klimit ktoG_36 kfromG_37 kkindG_38 knumberG_39 ksignG_40 kfaultG_41 kplaceG_42 kwordG_43 ktoldG_44 know kread kkept ksnaps kaside kname kreadName kkeptName kisKept konces ksnapMany khasCells kpoured kfar ksides ksideMany kwayDays khasWay klines kmet kmetMany ksunk ktrying ksunkMany ksending kfleets ktext ktexts kseed kline kwritten klineMany khasWritten knode knodes konesMany kwithin ktop klineG_29 (aq + 2) iv_ko_0 iv_ko_1 iv_ko_2 p46 p47 iv_ko_5 iv_ko_6 iv_ko_7 iv_ko_8 iv_ko_9 iv_ko_10 iv_ko_11 iv_ko_12 iv_ko_13 iv_ko_14 (lf_g_readPour_6 bt ksize klimit kto kfrom kkind knumber ksign kword ktapeF klineF hp aq ktoG_4 kfromG_5 kkindG_6 knumberG_7 ksignG_8 kwordG_11 ktoldG_12 klineG_29 ktoG_36 kfromG_37 kkindG_38 knumberG_39 ksignG_40 kwordG_43 ktoldG_44 iv_ko_1 iv_ko_2 iv_ko_3 iv_ko_4 hTM ha hMT p14 p15 t16 t17 t18 t19 t20 p31 p46 p47 t48 t49 t50 t51 t52)) (cwV 2 hts gX12_readPour_X12_keep rfl rfl rfl (by decide +kernel) ⟨(Nat.le_of_ble_eq_true rfl), (Nat.le_of_ble_eq_true rfl)⟩) (pre_UV hK hP hD [1, 0] (by decide) rfl (ci := 12) (q0 := 1) rfl rfl) rfl rfl hl.1 rfl (lv_room (Nat.le_of_ble_eq_true rfl)) dX12_readPour_26 ⟨(Nat.le_of_ble_eq_true rfl), (Nat.le_of_ble_eq_true rfl)⟩) hP hD hS hA [1, 0] [2] rfl rfl (by decide) (by decide) (fun r60 u58 H locs p59 hP hD hS => ?_)
      obtain ⟨klineG_61, rfl⟩ : ∃ z, z = u58 := ⟨_, rfl⟩
      try dsimp only at p59
      obtain ⟨p62, p63⟩ := p59
      refine W.widen (k := 0) (n := 0) (Nat.le_of_ble_eq_true rfl) (Nat.le_of_ble_eq_true rfl) ?_
      have hP : va_P (dC, dI) vwCl [(ktape, .inl (ky 0, 940, .inl ktapeF)), (o, .inr (12, [.int kthrown, .ref ktape, .int (nI ktaped), .int (nI ksize), .int (nI klimit), .int (nI ktoG_36), .int (nI kfromG_37), .int kkindG_38, .int knumberG_39, .int ksignG_40, .int kfaultG_41, .int kplaceG_42, .long kwordG_43, .int ktoldG_44, .ref know, .ref kread, .ref kkept, .ref ksnaps, .ref kaside, .ref kname, .ref kreadName, .ref kkeptName, .ref kisKept, .ref konces, .int (nI ksnapMany), .int khasCells, .ref kpoured, .ref kfar, .ref ksides, .int (nI ksideMany), .int kwayDays, .int khasWay, .ref klines, .ref kmet, .int (nI kmetMany), .ref ksunk, .ref ktrying, .int (nI ksunkMany), .int ksending, .int kfleets, .ref ktext, .int (nI ktexts), .int kseed, .ref kline, .ref kwritten, .int (nI klineMany), .int khasWritten, .ref knode, .int (nI knodes), .int (nI konesMany), .int (nI kwithin), .int (nI ktop)])), (kline, .inl (ky 0, 160, .inl klineG_61))] H := hP
      have hD : va_D A [(ktape, .inl (ky 0, 940, .inl ktapeF)), (o, .inr (12, [.int kthrown, .ref ktape, .int (nI ktaped), .int (nI ksize), .int (nI klimit), .int (nI ktoG_36), .int (nI kfromG_37), .int kkindG_38, .int knumberG_39, .int ksignG_40, .int kfaultG_41, .int kplaceG_42, .long kwordG_43, .int ktoldG_44, .ref know, .ref kread, .ref kkept, .ref ksnaps, .ref kaside, .ref kname, .ref kreadName, .ref kkeptName, .ref kisKept, .ref konces, .int (nI ksnapMany), .int khasCells, .ref kpoured, .ref kfar, .ref ksides, .int (nI ksideMany), .int kwayDays, .int khasWay, .ref klines, .ref kmet, .int (nI kmetMany), .ref ksunk, .ref ktrying, .int (nI ksunkMany), .int ksending, .int kfleets, .ref ktext, .int (nI ktexts), .int kseed, .ref kline, .ref kwritten, .int (nI klineMany), .int khasWritten, .ref knode, .int (nI knodes), .int (nI konesMany), .int (nI kwithin), .int (nI ktop)])), (kline, .inl (ky 0, 160, .inl klineG_61))] := hD
      subst p62
      refine lv_if_eq (tgt := 53) hx hb dX12_readPour_29 (by decide) (fun c64 => absurd c64 (by decide)) (fun c64 => ?_)
      refine lv_aload_n hx hb dX12_readPour_32 rfl (lv_at hl 0 rfl) ?_
      refine lv_iload_n hx hb dX12_readPour_33 rfl (lv_at hl 1 rfl) ?_
      refine lv_iconst (v := nI 3) hx hb dX12_readPour_34 (by decide) ?_
      refine lv_iadd hx hb dX12_readPour_35 ?_
      refine r_ti (nI (aq + 3)) (nI_add _ _) ?_
      refine lv_aload_n hx hb dX12_readPour_36 rfl (lv_at hl 0 rfl) ?_
      refine lv_iconst (v := nI 1) hx hb dX12_readPour_37 (by decide) ?_
      refine lv_bipush (v := nI 9) hx hb dX12_readPour_38 (by decide) ?_
      refine r_call_i (wr := [(kline, .inl (ky 0, 160, .inl klineG_61))]) (va_runV (As := [.int (nI 1), .int (nI 9)]) (rest := [.int (nI (aq + 3)), .ref o]) ⟨hx, hb, hml, hown, hts⟩ (c_g_readNumber l dC dI ky H.size bt o kthrown ktape ktaped ksize klimit ktoG_36 kfromG_37 kkindG_38 knumberG_39 ksignG_40 kfaultG_41 kplaceG_42 kwordG_43 ktoldG_44 know kread kkept ksnaps kaside kname kreadName kkeptName kisKept konces ksnapMany khasCells kpoured kfar ksides ksideMany kwayDays khasWay klines kmet kmetMany ksunk ktrying ksunkMany ksending kfleets ktext ktexts kseed kline kwritten klineMany khasWritten knode knodes konesMany kwithin ktop ktapeF (tT bt ksize klimit (tT bt ksize klimit hp)) 1 9 iv_ko_0 iv_ko_1 iv_ko_2 p46 p47 iv_ko_5 iv_ko_6 iv_ko_7 iv_ko_8 iv_ko_9 iv_ko_10 iv_ko_11 iv_ko_12 iv_ko_13 iv_ko_14 hTM (lf_g_readPour_7) (lf_g_readPour_8) t52) (cwV 2 hts gX12_readPour_X12_readNumber rfl rfl rfl (by decide +kernel) ⟨(Nat.le_of_ble_eq_true rfl), (Nat.le_of_ble_eq_true rfl)⟩) (pre_UV hK hP hD [1, 0] (by decide) rfl (ci := 12) (q0 := 1) rfl rfl) rfl rfl hl.1 rfl (lv_room (Nat.le_of_ble_eq_true rfl)) dX12_readPour_40 ⟨(Nat.le_of_ble_eq_true rfl), (Nat.le_of_ble_eq_true rfl)⟩) hP hD hS hA [1, 0] [2] rfl rfl (by decide) (by decide) (fun r67 u65 H locs p66 hP hD hS => ?_)
      obtain ⟨ktoG_68, kfromG_69, kkindG_70, knumberG_71, ksignG_72, kfaultG_73, kplaceG_74, kwordG_75, ktoldG_76⟩ := u65
      try dsimp only at p66
      obtain ⟨p77, p78, p79⟩ := p66
      refine W.widen (k := 0) (n := 0) (Nat.le_of_ble_eq_true rfl) (Nat.le_of_ble_eq_true rfl) ?_
      have hP : va_P (dC, dI) vwCl [(kline, .inl (ky 0, 160, .inl klineG_61)), (o, .inr (12, [.int kthrown, .ref ktape, .int (nI ktaped), .int (nI ksize), .int (nI klimit), .int (nI ktoG_68), .int (nI kfromG_69), .int kkindG_70, .int knumberG_71, .int ksignG_72, .int kfaultG_73, .int kplaceG_74, .long kwordG_75, .int ktoldG_76, .ref know, .ref kread, .ref kkept, .ref ksnaps, .ref kaside, .ref kname, .ref kreadName, .ref kkeptName, .ref kisKept, .ref konces, .int (nI ksnapMany), .int khasCells, .ref kpoured, .ref kfar, .ref ksides, .int (nI ksideMany), .int kwayDays, .int khasWay, .ref klines, .ref kmet, .int (nI kmetMany), .ref ksunk, .ref ktrying, .int (nI ksunkMany), .int ksending, .int kfleets, .ref ktext, .int (nI ktexts), .int kseed, .ref kline, .ref kwritten, .int (nI klineMany), .int khasWritten, .ref knode, .int (nI knodes), .int (nI konesMany), .int (nI kwithin), .int (nI ktop)])), (ktape, .inl (ky 0, 940, .inl ktapeF))] H := hP
      have hD : va_D A [(kline, .inl (ky 0, 160, .inl klineG_61)), (o, .inr (12, [.int kthrown, .ref ktape, .int (nI ktaped), .int (nI ksize), .int (nI klimit), .int (nI ktoG_68), .int (nI kfromG_69), .int kkindG_70, .int knumberG_71, .int ksignG_72, .int kfaultG_73, .int kplaceG_74, .long kwordG_75, .int ktoldG_76, .ref know, .ref kread, .ref kkept, .ref ksnaps, .ref kaside, .ref kname, .ref kreadName, .ref kkeptName, .ref kisKept, .ref konces, .int (nI ksnapMany), .int khasCells, .ref kpoured, .ref kfar, .ref ksides, .int (nI ksideMany), .int kwayDays, .int khasWay, .ref klines, .ref kmet, .int (nI kmetMany), .ref ksunk, .ref ktrying, .int (nI ksunkMany), .int ksending, .int kfleets, .ref ktext, .int (nI ktexts), .int kseed, .ref kline, .ref kwritten, .int (nI klineMany), .int khasWritten, .ref knode, .int (nI knodes), .int (nI konesMany), .int (nI kwithin), .int (nI ktop)])), (ktape, .inl (ky 0, 940, .inl ktapeF))] := hD
      rcases p77 with ⟨rfl, t80, t81, t82, t83, t84, t85, t86⟩ | ⟨rfl, t87, t88, t89⟩
      · refine r_call_i (wr := [(ktape, .inl (ky 0, 940, .inl ktapeF))]) (va_runV (As := [.int (nI (aq + 3)), .int (nI 1)]) (rest := []) ⟨hx, hb, hml, hown, hts⟩ (c_x_keep1 l dC dI ky H.size o kthrown ktape ktaped ksize klimit ktoG_68 kfromG_69 kkindG_70 knumberG_71 ksignG_72 kfaultG_73 kplaceG_74 kwordG_75 ktoldG_76 know kread kkept ksnaps kaside kname kreadName kkeptName kisKept konces ksnapMany khasCells kpoured kfar ksides ksideMany kwayDays khasWay klines kmet kmetMany ksunk ktrying ksunkMany ksending kfleets ktext ktexts kseed kline kwritten klineMany khasWritten knode knodes konesMany kwithin ktop klineG_61 (aq + 3) iv_ko_0 iv_ko_1 iv_ko_2 p78 p79 iv_ko_5 iv_ko_6 iv_ko_7 iv_ko_8 iv_ko_9 iv_ko_10 iv_ko_11 iv_ko_12 iv_ko_13 iv_ko_14 (lf_g_readPour_9 bt ksize klimit kto kfrom kkind knumber ksign kword ktapeF klineF hp aq ktoG_4 kfromG_5 kkindG_6 knumberG_7 ksignG_8 kwordG_11 ktoldG_12 klineG_29 ktoG_36 kfromG_37 kkindG_38 knumberG_39 ksignG_40 kwordG_43 ktoldG_44 klineG_61 ktoG_68 kfromG_69 kkindG_70 knumberG_71 ksignG_72 kwordG_75 ktoldG_76 iv_ko_1 iv_ko_2 iv_ko_3 iv_ko_4 hTM ha hMT p14 p15 t16 t17 t18 t19 t20 p31 p46 p47 t48 t49 t50 t51 t52 p63 p78 p79 t80 t81 t82 t83 t84)) (cwV 2 hts gX12_readPour_X12_keep rfl rfl rfl (by decide +kernel) ⟨(Nat.le_of_ble_eq_true rfl), (Nat.le_of_ble_eq_true rfl)⟩) (pre_UV hK hP hD [1, 0] (by decide) rfl (ci := 12) (q0 := 1) rfl rfl) rfl rfl hl.1 rfl (lv_room (Nat.le_of_ble_eq_true rfl)) dX12_readPour_43 ⟨(Nat.le_of_ble_eq_true rfl), (Nat.le_of_ble_eq_true rfl)⟩) hP hD hS hA [1, 0] [2] rfl rfl (by decide) (by decide) (fun r92 u90 H locs p91 hP hD hS => ?_)
        obtain ⟨klineG_93, rfl⟩ : ∃ z, z = u90 := ⟨_, rfl⟩
        try dsimp only at p91
        obtain ⟨p94, p95⟩ := p91
        refine W.widen (k := 0) (n := 0) (Nat.le_of_ble_eq_true rfl) (Nat.le_of_ble_eq_true rfl) ?_
        have hP : va_P (dC, dI) vwCl [(ktape, .inl (ky 0, 940, .inl ktapeF)), (o, .inr (12, [.int kthrown, .ref ktape, .int (nI ktaped), .int (nI ksize), .int (nI klimit), .int (nI ktoG_68), .int (nI kfromG_69), .int kkindG_70, .int knumberG_71, .int ksignG_72, .int kfaultG_73, .int kplaceG_74, .long kwordG_75, .int ktoldG_76, .ref know, .ref kread, .ref kkept, .ref ksnaps, .ref kaside, .ref kname, .ref kreadName, .ref kkeptName, .ref kisKept, .ref konces, .int (nI ksnapMany), .int khasCells, .ref kpoured, .ref kfar, .ref ksides, .int (nI ksideMany), .int kwayDays, .int khasWay, .ref klines, .ref kmet, .int (nI kmetMany), .ref ksunk, .ref ktrying, .int (nI ksunkMany), .int ksending, .int kfleets, .ref ktext, .int (nI ktexts), .int kseed, .ref kline, .ref kwritten, .int (nI klineMany), .int khasWritten, .ref knode, .int (nI knodes), .int (nI konesMany), .int (nI kwithin), .int (nI ktop)])), (kline, .inl (ky 0, 160, .inl klineG_93))] H := hP
        have hD : va_D A [(ktape, .inl (ky 0, 940, .inl ktapeF)), (o, .inr (12, [.int kthrown, .ref ktape, .int (nI ktaped), .int (nI ksize), .int (nI klimit), .int (nI ktoG_68), .int (nI kfromG_69), .int kkindG_70, .int knumberG_71, .int ksignG_72, .int kfaultG_73, .int kplaceG_74, .long kwordG_75, .int ktoldG_76, .ref know, .ref kread, .ref kkept, .ref ksnaps, .ref kaside, .ref kname, .ref kreadName, .ref kkeptName, .ref kisKept, .ref konces, .int (nI ksnapMany), .int khasCells, .ref kpoured, .ref kfar, .ref ksides, .int (nI ksideMany), .int kwayDays, .int khasWay, .ref klines, .ref kmet, .int (nI kmetMany), .ref ksunk, .ref ktrying, .int (nI ksunkMany), .int ksending, .int kfleets, .ref ktext, .int (nI ktexts), .int kseed, .ref kline, .ref kwritten, .int (nI klineMany), .int khasWritten, .ref knode, .int (nI knodes), .int (nI konesMany), .int (nI kwithin), .int (nI ktop)])), (kline, .inl (ky 0, 160, .inl klineG_93))] := hD
        subst p94
        refine lv_if_eq (tgt := 53) hx hb dX12_readPour_46 (by decide) (fun c96 => absurd c96 (by decide)) (fun c96 => ?_)
        refine lv_iconst (v := nI 1) hx hb dX12_readPour_49 (by decide) ?_
        refine lv_goto (tgt := 54) hx hb dX12_readPour_50 (by decide) ?_
        rw [hQ]
        have hP9 := hP.sub (ws' := [(o, .inr (12, [.int kthrown, .ref ktape, .int (nI ktaped), .int (nI ksize), .int (nI klimit), .int (nI ktoG_68), .int (nI kfromG_69), .int kkindG_70, .int knumberG_71, .int ksignG_72, .int kfaultG_73, .int kplaceG_74, .long kwordG_75, .int ktoldG_76, .ref know, .ref kread, .ref kkept, .ref ksnaps, .ref kaside, .ref kname, .ref kreadName, .ref kkeptName, .ref kisKept, .ref konces, .int (nI ksnapMany), .int khasCells, .ref kpoured, .ref kfar, .ref ksides, .int (nI ksideMany), .int kwayDays, .int khasWay, .ref klines, .ref kmet, .int (nI kmetMany), .ref ksunk, .ref ktrying, .int (nI ksunkMany), .int ksending, .int kfleets, .ref ktext, .int (nI ktexts), .int kseed, .ref kline, .ref kwritten, .int (nI klineMany), .int khasWritten, .ref knode, .int (nI knodes), .int (nI konesMany), .int (nI kwithin), .int (nI ktop)])), (ktape, .inl (ky 0, 940, .inl ktapeF)), (kline, .inl (ky 0, 160, .inl klineG_93))]) [1, 0, 2] rfl
        have hD9 := hD.sub (ws' := [(o, .inr (12, [.int kthrown, .ref ktape, .int (nI ktaped), .int (nI ksize), .int (nI klimit), .int (nI ktoG_68), .int (nI kfromG_69), .int kkindG_70, .int knumberG_71, .int ksignG_72, .int kfaultG_73, .int kplaceG_74, .long kwordG_75, .int ktoldG_76, .ref know, .ref kread, .ref kkept, .ref ksnaps, .ref kaside, .ref kname, .ref kreadName, .ref kkeptName, .ref kisKept, .ref konces, .int (nI ksnapMany), .int khasCells, .ref kpoured, .ref kfar, .ref ksides, .int (nI ksideMany), .int kwayDays, .int khasWay, .ref klines, .ref kmet, .int (nI kmetMany), .ref ksunk, .ref ktrying, .int (nI ksunkMany), .int ksending, .int kfleets, .ref ktext, .int (nI ktexts), .int kseed, .ref kline, .ref kwritten, .int (nI klineMany), .int khasWritten, .ref knode, .int (nI knodes), .int (nI konesMany), .int (nI kwithin), .int (nI ktop)])), (ktape, .inl (ky 0, 940, .inl ktapeF)), (kline, .inl (ky 0, 160, .inl klineG_93))]) [1, 0, 2] (by decide) rfl
        exact W.zret (v := nI 1) hx hb hr (by decide) (fun t9 ht9 hW9 => ⟨⟨nI 1, (ktoG_68, kfromG_69, kkindG_70, knumberG_71, ksignG_72, kfaultG_73, kplaceG_74, kwordG_75, ktoldG_76, klineG_93), rfl, ⟨(lf_g_readPour_10 bt ksize klimit kto kfrom kkind knumber ksign kfault kplace kword ktapeF klineF hp aq ktoG_4 kfromG_5 kkindG_6 knumberG_7 ksignG_8 kfaultG_9 kplaceG_10 kwordG_11 ktoldG_12 klineG_29 ktoG_36 kfromG_37 kkindG_38 knumberG_39 ksignG_40 kfaultG_41 kplaceG_42 kwordG_43 ktoldG_44 klineG_61 ktoG_68 kfromG_69 kkindG_70 knumberG_71 ksignG_72 kfaultG_73 kplaceG_74 kwordG_75 ktoldG_76 klineG_93 iv_ko_1 iv_ko_2 iv_ko_3 iv_ko_4 hTM ha hMT p14 p15 t16 t17 t18 t19 t20 t21 t22 p31 p46 p47 t48 t49 t50 t51 t52 t53 t54 p63 p78 p79 t80 t81 t82 t83 t84 t85 t86 p95), p78, p79⟩, by rw [ht9]; exact hP9, va_K.moved hW9.alike hK, hD9⟩, hS.F ht9⟩) hS.2.2 dX12_readPour_54
      · refine vp_callSi (W.runV (As := [.int (nI (aq + 3)), .int (nI 0)]) (rest := []) ⟨hx, hb, hml, hown, hts⟩ (c_x_keep0 l dC dI ky o kthrown ktape ktaped ksize klimit ktoG_68 kfromG_69 kkindG_70 knumberG_71 ksignG_72 kfaultG_73 kplaceG_74 kwordG_75 ktoldG_76 know kread kkept ksnaps kaside kname kreadName kkeptName kisKept konces ksnapMany khasCells kpoured kfar ksides ksideMany kwayDays khasWay klines kmet kmetMany ksunk ktrying ksunkMany ksending kfleets ktext ktexts kseed kline kwritten klineMany khasWritten knode knodes konesMany kwithin ktop (nI (aq + 3)) iv_ko_0 iv_ko_1 iv_ko_2 p78 p79 iv_ko_5 iv_ko_6 iv_ko_7 iv_ko_8 iv_ko_9 iv_ko_10 iv_ko_11 iv_ko_12 iv_ko_13 iv_ko_14) (cwV 2 hts gX12_readPour_X12_keep rfl rfl rfl (by decide +kernel) ⟨(Nat.le_of_ble_eq_true rfl), (Nat.le_of_ble_eq_true rfl)⟩) (pre_PV hK hP [1] rfl (ci := 12) (q0 := 1) rfl rfl) rfl rfl hl.1 rfl (lv_room (Nat.le_of_ble_eq_true rfl)) dX12_readPour_43 ⟨(Nat.le_of_ble_eq_true rfl), (Nat.le_of_ble_eq_true rfl)⟩) (fun r97 p98 => ?_)
        subst p98
        refine lv_if_eq (tgt := 53) hx hb dX12_readPour_46 (by decide) (fun c99 => ?_) (fun c99 => absurd (by decide) c99)
        refine lv_iconst (v := nI 0) hx hb dX12_readPour_53 (by decide) ?_
        rw [hQ]
        have hP9 := hP.sub (ws' := [(o, .inr (12, [.int kthrown, .ref ktape, .int (nI ktaped), .int (nI ksize), .int (nI klimit), .int (nI ktoG_68), .int (nI kfromG_69), .int kkindG_70, .int knumberG_71, .int ksignG_72, .int kfaultG_73, .int kplaceG_74, .long kwordG_75, .int ktoldG_76, .ref know, .ref kread, .ref kkept, .ref ksnaps, .ref kaside, .ref kname, .ref kreadName, .ref kkeptName, .ref kisKept, .ref konces, .int (nI ksnapMany), .int khasCells, .ref kpoured, .ref kfar, .ref ksides, .int (nI ksideMany), .int kwayDays, .int khasWay, .ref klines, .ref kmet, .int (nI kmetMany), .ref ksunk, .ref ktrying, .int (nI ksunkMany), .int ksending, .int kfleets, .ref ktext, .int (nI ktexts), .int kseed, .ref kline, .ref kwritten, .int (nI klineMany), .int khasWritten, .ref knode, .int (nI knodes), .int (nI konesMany), .int (nI kwithin), .int (nI ktop)])), (ktape, .inl (ky 0, 940, .inl ktapeF)), (kline, .inl (ky 0, 160, .inl klineG_61))]) [1, 2, 0] rfl
        have hD9 := hD.sub (ws' := [(o, .inr (12, [.int kthrown, .ref ktape, .int (nI ktaped), .int (nI ksize), .int (nI klimit), .int (nI ktoG_68), .int (nI kfromG_69), .int kkindG_70, .int knumberG_71, .int ksignG_72, .int kfaultG_73, .int kplaceG_74, .long kwordG_75, .int ktoldG_76, .ref know, .ref kread, .ref kkept, .ref ksnaps, .ref kaside, .ref kname, .ref kreadName, .ref kkeptName, .ref kisKept, .ref konces, .int (nI ksnapMany), .int khasCells, .ref kpoured, .ref kfar, .ref ksides, .int (nI ksideMany), .int kwayDays, .int khasWay, .ref klines, .ref kmet, .int (nI kmetMany), .ref ksunk, .ref ktrying, .int (nI ksunkMany), .int ksending, .int kfleets, .ref ktext, .int (nI ktexts), .int kseed, .ref kline, .ref kwritten, .int (nI klineMany), .int khasWritten, .ref knode, .int (nI knodes), .int (nI konesMany), .int (nI kwithin), .int (nI ktop)])), (ktape, .inl (ky 0, 940, .inl ktapeF)), (kline, .inl (ky 0, 160, .inl klineG_61))]) [1, 2, 0] (by decide) rfl
        exact W.zret (v := nI 0) hx hb hr (by decide) (fun t9 ht9 hW9 => ⟨⟨nI 0, (ktoG_68, kfromG_69, kkindG_70, knumberG_71, ksignG_72, kfaultG_73, kplaceG_74, kwordG_75, ktoldG_76, klineG_61), rfl, ⟨(lf_g_readPour_11 bt ksize klimit kto kfrom kkind knumber ksign kfault kplace kword ktapeF klineF hp aq ktoG_4 kfromG_5 kkindG_6 knumberG_7 ksignG_8 kfaultG_9 kplaceG_10 kwordG_11 ktoldG_12 klineG_29 ktoG_36 kfromG_37 kkindG_38 knumberG_39 ksignG_40 kfaultG_41 kplaceG_42 kwordG_43 ktoldG_44 klineG_61 ktoG_68 kfromG_69 kkindG_70 knumberG_71 ksignG_72 kfaultG_73 kplaceG_74 kwordG_75 iv_ko_1 iv_ko_2 iv_ko_3 iv_ko_4 hTM ha hMT p14 p15 t16 t17 t18 t19 t20 t21 t22 p31 p46 p47 t48 t49 t50 t51 t52 t53 t54 p63 p78 p79 t87 t88 t89), p78, p79⟩, by rw [ht9]; exact hP9, va_K.moved hW9.alike hK, hD9⟩, hS.F ht9⟩) hS.2.2 dX12_readPour_54
    · refine vp_callSi (W.runV (As := [.int (nI (aq + 2)), .int (nI 0)]) (rest := []) ⟨hx, hb, hml, hown, hts⟩ (c_x_keep0 l dC dI ky o kthrown ktape ktaped ksize klimit ktoG_36 kfromG_37 kkindG_38 knumberG_39 ksignG_40 kfaultG_41 kplaceG_42 kwordG_43 ktoldG_44 know kread kkept ksnaps kaside kname kreadName kkeptName kisKept konces ksnapMany khasCells kpoured kfar ksides ksideMany kwayDays khasWay klines kmet kmetMany ksunk ktrying ksunkMany ksending kfleets ktext ktexts kseed kline kwritten klineMany khasWritten knode knodes konesMany kwithin ktop (nI (aq + 2)) iv_ko_0 iv_ko_1 iv_ko_2 p46 p47 iv_ko_5 iv_ko_6 iv_ko_7 iv_ko_8 iv_ko_9 iv_ko_10 iv_ko_11 iv_ko_12 iv_ko_13 iv_ko_14) (cwV 2 hts gX12_readPour_X12_keep rfl rfl rfl (by decide +kernel) ⟨(Nat.le_of_ble_eq_true rfl), (Nat.le_of_ble_eq_true rfl)⟩) (pre_PV hK hP [1] rfl (ci := 12) (q0 := 1) rfl rfl) rfl rfl hl.1 rfl (lv_room (Nat.le_of_ble_eq_true rfl)) dX12_readPour_26 ⟨(Nat.le_of_ble_eq_true rfl), (Nat.le_of_ble_eq_true rfl)⟩) (fun r100 p101 => ?_)
      subst p101
      refine lv_if_eq (tgt := 53) hx hb dX12_readPour_29 (by decide) (fun c102 => ?_) (fun c102 => absurd (by decide) c102)
      refine lv_iconst (v := nI 0) hx hb dX12_readPour_53 (by decide) ?_
      rw [hQ]
      have hP9 := hP.sub (ws' := [(o, .inr (12, [.int kthrown, .ref ktape, .int (nI ktaped), .int (nI ksize), .int (nI klimit), .int (nI ktoG_36), .int (nI kfromG_37), .int kkindG_38, .int knumberG_39, .int ksignG_40, .int kfaultG_41, .int kplaceG_42, .long kwordG_43, .int ktoldG_44, .ref know, .ref kread, .ref kkept, .ref ksnaps, .ref kaside, .ref kname, .ref kreadName, .ref kkeptName, .ref kisKept, .ref konces, .int (nI ksnapMany), .int khasCells, .ref kpoured, .ref kfar, .ref ksides, .int (nI ksideMany), .int kwayDays, .int khasWay, .ref klines, .ref kmet, .int (nI kmetMany), .ref ksunk, .ref ktrying, .int (nI ksunkMany), .int ksending, .int kfleets, .ref ktext, .int (nI ktexts), .int kseed, .ref kline, .ref kwritten, .int (nI klineMany), .int khasWritten, .ref knode, .int (nI knodes), .int (nI konesMany), .int (nI kwithin), .int (nI ktop)])), (ktape, .inl (ky 0, 940, .inl ktapeF)), (kline, .inl (ky 0, 160, .inl klineG_29))]) [1, 2, 0] rfl
      have hD9 := hD.sub (ws' := [(o, .inr (12, [.int kthrown, .ref ktape, .int (nI ktaped), .int (nI ksize), .int (nI klimit), .int (nI ktoG_36), .int (nI kfromG_37), .int kkindG_38, .int knumberG_39, .int ksignG_40, .int kfaultG_41, .int kplaceG_42, .long kwordG_43, .int ktoldG_44, .ref know, .ref kread, .ref kkept, .ref ksnaps, .ref kaside, .ref kname, .ref kreadName, .ref kkeptName, .ref kisKept, .ref konces, .int (nI ksnapMany), .int khasCells, .ref kpoured, .ref kfar, .ref ksides, .int (nI ksideMany), .int kwayDays, .int khasWay, .ref klines, .ref kmet, .int (nI kmetMany), .ref ksunk, .ref ktrying, .int (nI ksunkMany), .int ksending, .int kfleets, .ref ktext, .int (nI ktexts), .int kseed, .ref kline, .ref kwritten, .int (nI klineMany), .int khasWritten, .ref knode, .int (nI knodes), .int (nI konesMany), .int (nI kwithin), .int (nI ktop)])), (ktape, .inl (ky 0, 940, .inl ktapeF)), (kline, .inl (ky 0, 160, .inl klineG_29))]) [1, 2, 0] (by decide) rfl
      exact W.zret (v := nI 0) hx hb hr (by decide) (fun t9 ht9 hW9 => ⟨⟨nI 0, (ktoG_36, kfromG_37, kkindG_38, knumberG_39, ksignG_40, kfaultG_41, kplaceG_42, kwordG_43, ktoldG_44, klineG_29), rfl, ⟨(lf_g_readPour_12 bt ksize klimit kto kfrom kkind knumber ksign kfault kplace kword ktapeF klineF hp aq ktoG_4 kfromG_5 kkindG_6 knumberG_7 ksignG_8 kfaultG_9 kplaceG_10 kwordG_11 ktoldG_12 klineG_29 ktoG_36 kfromG_37 kkindG_38 knumberG_39 ksignG_40 kfaultG_41 kplaceG_42 kwordG_43 iv_ko_1 iv_ko_2 iv_ko_3 iv_ko_4 hTM ha hMT p14 p15 t16 t17 t18 t19 t20 t21 t22 p31 p46 p47 t55 t56 t57), p46, p47⟩, by rw [ht9]; exact hP9, va_K.moved hW9.alike hK, hD9⟩, hS.F ht9⟩) hS.2.2 dX12_readPour_54
  · refine vp_callSi (W.runV (As := [.int (nI (aq + 1)), .int (nI 0)]) (rest := []) ⟨hx, hb, hml, hown, hts⟩ (c_x_keep0 l dC dI ky o kthrown ktape ktaped ksize klimit ktoG_4 kfromG_5 kkindG_6 knumberG_7 ksignG_8 kfaultG_9 kplaceG_10 kwordG_11 ktoldG_12 know kread kkept ksnaps kaside kname kreadName kkeptName kisKept konces ksnapMany khasCells kpoured kfar ksides ksideMany kwayDays khasWay klines kmet kmetMany ksunk ktrying ksunkMany ksending kfleets ktext ktexts kseed kline kwritten klineMany khasWritten knode knodes konesMany kwithin ktop (nI (aq + 1)) iv_ko_0 iv_ko_1 iv_ko_2 p14 p15 iv_ko_5 iv_ko_6 iv_ko_7 iv_ko_8 iv_ko_9 iv_ko_10 iv_ko_11 iv_ko_12 iv_ko_13 iv_ko_14) (cwV 2 hts gX12_readPour_X12_keep rfl rfl rfl (by decide +kernel) ⟨(Nat.le_of_ble_eq_true rfl), (Nat.le_of_ble_eq_true rfl)⟩) (pre_PV hK hP [1] rfl (ci := 12) (q0 := 1) rfl rfl) rfl rfl hl.1 rfl (lv_room (Nat.le_of_ble_eq_true rfl)) dX12_readPour_10 ⟨(Nat.le_of_ble_eq_true rfl), (Nat.le_of_ble_eq_true rfl)⟩) (fun r103 p104 => ?_)
    subst p104
    refine lv_if_eq (tgt := 53) hx hb dX12_readPour_13 (by decide) (fun c105 => ?_) (fun c105 => absurd (by decide) c105)
    refine lv_iconst (v := nI 0) hx hb dX12_readPour_53 (by decide) ?_
    rw [hQ]
    have hP9 := hP.sub (ws' := [(o, .inr (12, [.int kthrown, .ref ktape, .int (nI ktaped), .int (nI ksize), .int (nI klimit), .int (nI ktoG_4), .int (nI kfromG_5), .int kkindG_6, .int knumberG_7, .int ksignG_8, .int kfaultG_9, .int kplaceG_10, .long kwordG_11, .int ktoldG_12, .ref know, .ref kread, .ref kkept, .ref ksnaps, .ref kaside, .ref kname, .ref kreadName, .ref kkeptName, .ref kisKept, .ref konces, .int (nI ksnapMany), .int khasCells, .ref kpoured, .ref kfar, .ref ksides, .int (nI ksideMany), .int kwayDays, .int khasWay, .ref klines, .ref kmet, .int (nI kmetMany), .ref ksunk, .ref ktrying, .int (nI ksunkMany), .int ksending, .int kfleets, .ref ktext, .int (nI ktexts), .int kseed, .ref kline, .ref kwritten, .int (nI klineMany), .int khasWritten, .ref knode, .int (nI knodes), .int (nI konesMany), .int (nI kwithin), .int (nI ktop)])), (ktape, .inl (ky 0, 940, .inl ktapeF)), (kline, .inl (ky 0, 160, .inl klineF))]) [1, 2, 0] rfl
    have hD9 := hD.sub (ws' := [(o, .inr (12, [.int kthrown, .ref ktape, .int (nI ktaped), .int (nI ksize), .int (nI klimit), .int (nI ktoG_4), .int (nI kfromG_5), .int kkindG_6, .int knumberG_7, .int ksignG_8, .int kfaultG_9, .int kplaceG_10, .long kwordG_11, .int ktoldG_12, .ref know, .ref kread, .ref kkept, .ref ksnaps, .ref kaside, .ref kname, .ref kreadName, .ref kkeptName, .ref kisKept, .ref konces, .int (nI ksnapMany), .int khasCells, .ref kpoured, .ref kfar, .ref ksides, .int (nI ksideMany), .int kwayDays, .int khasWay, .ref klines, .ref kmet, .int (nI kmetMany), .ref ksunk, .ref ktrying, .int (nI ksunkMany), .int ksending, .int kfleets, .ref ktext, .int (nI ktexts), .int kseed, .ref kline, .ref kwritten, .int (nI klineMany), .int khasWritten, .ref knode, .int (nI knodes), .int (nI konesMany), .int (nI kwithin), .int (nI ktop)])), (ktape, .inl (ky 0, 940, .inl ktapeF)), (kline, .inl (ky 0, 160, .inl klineF))]) [1, 2, 0] (by decide) rfl
    exact W.zret (v := nI 0) hx hb hr (by decide) (fun t9 ht9 hW9 => ⟨⟨nI 0, (ktoG_4, kfromG_5, kkindG_6, knumberG_7, ksignG_8, kfaultG_9, kplaceG_10, kwordG_11, ktoldG_12, klineF), rfl, ⟨(lf_g_readPour_13 bt ksize klimit kto kfrom kkind knumber ksign kfault kplace kword ktapeF klineF hp aq ktoG_4 kfromG_5 kkindG_6 knumberG_7 ksignG_8 kfaultG_9 kplaceG_10 kwordG_11 iv_ko_1 iv_ko_2 iv_ko_3 iv_ko_4 hTM ha hMT p14 p15 t23 t24 t25), p14, p15⟩, by rw [ht9]; exact hP9, va_K.moved hW9.alike hK, hD9⟩, hS.F ht9⟩) hS.2.2 dX12_readPour_54
