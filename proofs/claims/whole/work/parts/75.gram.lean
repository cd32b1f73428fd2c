/-! TOKENS and TEXTS -/
def bt (N : Int) (xs : Int → Int) (i : Int) : Int := if 0 ≤ i ∧ i < N then xs i else -1
def isl (b : Int) : Bool := decide (97 ≤ b ∧ b ≤ 122)
def isd (b : Int) : Bool := decide (48 ≤ b ∧ b ≤ 57)
def isb (b : Int) : Bool := decide (b = 32 ∨ b = 10)
def isg (b : Int) : Bool := decide (b = 40 ∨ b = 41 ∨ b = 59 ∨ b = 43 ∨ b = 45 ∨ b = 42 ∨ b = 60 ∨ b = 61)
theorem isl_iff {b : Int} : isl b = true ↔ 97 ≤ b ∧ b ≤ 122 := decide_eq_true_iff
theorem isd_iff {b : Int} : isd b = true ↔ 48 ≤ b ∧ b ≤ 57 := decide_eq_true_iff
theorem isb_iff {b : Int} : isb b = true ↔ b = 32 ∨ b = 10 := decide_eq_true_iff
theorem isg_iff {b : Int} : isg b = true ↔ b = 40 ∨ b = 41 ∨ b = 59 ∨ b = 43 ∨ b = 45 ∨ b = 42 ∨ b = 60 ∨ b = 61 := decide_eq_true_iff
/-- the first place from h on of which P doesn't hold -/
def spn (P : Int → Bool) (B : Int → Int) : Nat → Int → Int
  | 0, h => h
  | f + 1, h => if P (B h) = true then spn P B f (h + 1) else h
/-- bytes of a text of N: below 0 behind its end -/
def IsB (N : Int) (B : Int → Int) : Prop := (0 ≤ N ∧ N ≤ 160) ∧ (∀ i : Int, N ≤ i → B i = -1) ∧ ∀ i : Int, 0 ≤ i → i < N → 0 ≤ B i ∧ B i ≤ 255
theorem spn_ge {P : Int → Bool} {B : Int → Int} : ∀ (f : Nat) (h : Int), h ≤ spn P B f h
  | 0, h => Int.le_refl _
  | f + 1, h => by
    unfold spn
    by_cases c : P (B h) = true
    · rw [if_pos c]
      have := spn_ge (P := P) (B := B) f (h + 1)
      omega
    · rw [if_neg c]; omega
theorem spn_le {P : Int → Bool} {B : Int → Int} {N : Int} (hB : IsB N B) (hP : P (-1) = false) : ∀ (f : Nat) (h : Int), h ≤ N → spn P B f h ≤ N
  | 0, h, hh => hh
  | f + 1, h, hh => by
    unfold spn
    by_cases c : P (B h) = true
    · rw [if_pos c]
      refine spn_le hB hP f (h + 1) ?_
      by_cases e : h = N
      · rw [e, hB.2.1 N (Int.le_refl _), hP] at c; cases c
      · omega
    · rw [if_neg c]; exact hh
theorem spn_stop {P : Int → Bool} {B : Int → Int} {N : Int} (hB : IsB N B) (hP : P (-1) = false) : ∀ (f : Nat) (h : Int), N - h ≤ f → P (B (spn P B f h)) = false
  | 0, h, hh => by
    show P (B h) = false
    rw [hB.2.1 h (by omega)]; exact hP
  | f + 1, h, hh => by
    unfold spn
    by_cases c : P (B h) = true
    · rw [if_pos c]
      exact spn_stop hB hP f (h + 1) (by omega)
    · rw [if_neg c]
      exact Bool.not_eq_true _ ▸ c
theorem spn_in {P : Int → Bool} {B : Int → Int} : ∀ (f : Nat) (h i : Int), h ≤ i → i < spn P B f h → P (B i) = true
  | 0, h, i, h1, h2 => by
    have : i < h := h2
    omega
  | f + 1, h, i, h1, h2 => by
    unfold spn at h2
    by_cases c : P (B h) = true
    · rw [if_pos c] at h2
      by_cases e : i = h
      · rw [e]; exact c
      · exact spn_in f (h + 1) i (by omega) h2
    · rw [if_neg c] at h2; omega
/-- more steps than are wanted change nothing -/
theorem spn_more {P : Int → Bool} {B : Int → Int} {N : Int} (hB : IsB N B) (hP : P (-1) = false) : ∀ (f f' : Nat) (h : Int), N - h ≤ f → f ≤ f' → spn P B f' h = spn P B f h
  | 0, 0, h, _, _ => rfl
  | 0, f' + 1, h, h1, h2 => by
    show (if P (B h) = true then _ else h) = h
    rw [if_neg (by rw [hB.2.1 h (by omega), hP]; exact Bool.false_ne_true)]
  | f + 1, 0, h, h1, h2 => by omega
  | f + 1, f' + 1, h, h1, h2 => by
    show (if P (B h) = true then _ else h) = (if P (B h) = true then _ else h)
    by_cases c : P (B h) = true
    · rw [if_pos c, if_pos c]
      exact spn_more hB hP f f' (h + 1) (by omega) (by omega)
    · rw [if_neg c, if_neg c]
theorem spn_step {P : Int → Bool} {B : Int → Int} {N h : Int} (hB : IsB N B) (hP : P (-1) = false) (h0 : 0 ≤ h) (c : P (B h) = true) : spn P B 161 h = spn P B 161 (h + 1) := by
  have e : spn P B 161 h = spn P B 160 (h + 1) := if_pos c
  have h160 := hB.1
  have hN : h < N := by
    by_cases z : N ≤ h
    · rw [hB.2.1 h z, hP] at c; cases c
    · omega
  rw [e, spn_more hB hP 160 161 (h + 1) (by omega) (by omega)]
theorem spn_at {P : Int → Bool} {B : Int → Int} {h : Int} (c : ¬ P (B h) = true) : spn P B 161 h = h := if_neg c
/-- the number that n digits from h on spell; a word's worth; what it is -/
def nmb (B : Int → Int) (h : Int) : Nat → Int
  | 0 => 0
  | n + 1 => 10 * nmb B h n + B (h + n) - 48
def whs (B : Int → Int) (h : Int) : Nat → Int
  | 0 => 0
  | n + 1 => if n < 5 then 27 * whs B h n + B (h + n) - 96 else -1
def spe (B : Int → Int) : Int → List Int → Bool
  | _, [] => true
  | h, c :: r => decide (B h = c) && spe B (h + 1) r
def spl (B : Int → Int) (h n : Int) (w : List Int) : Bool := decide (n = w.length) && spe B h w
def kon (B : Int → Int) (h n : Int) : Int :=
  if spl B h n [112, 108, 97, 105, 110] = true then 260 else if spl B h n [115, 112, 108, 105, 116] = true then 261 else if spl B h n [116, 117, 114, 110] = true then 262
  else if spl B h n [111, 114] = true then 263 else if spl B h n [97, 110, 100] = true then 264 else if spl B h n [110, 111, 116] = true then 265
  else if spl B h n [110] = true then 270 else if spl B h n [109] = true then 271 else if spl B h n [115, 105, 122, 101] = true then 272 else if spl B h n [99, 117, 116] = true then 273
  else if spl B h n [107, 105, 110, 100] = true then 274 else if spl B h n [115, 97, 109, 101] = true then 275 else 257
def wco (w : Int) : Int :=
  if w = 8740238 then 260 else if w = 10421318 then 261 else if w = 409469 then 262 else if w = 423 then 263 else if w = 1111 then 264 else if w = 10631 then 265
  else if w = 14 then 270 else if w = 13 then 271 else if w = 381245 then 272 else if w = 2774 then 273 else if w = 223456 then 274 else if w = 375062 then 275 else 257
theorem spl1 {B : Int → Int} {h n a : Int} : spl B h n [a] = true ↔ n = 1 ∧ B h = a := by
  unfold spl spe spe
  simp only [List.length_cons, List.length_nil, Bool.and_eq_true, decide_eq_true_eq, and_true]
  constructor <;> (intro z; omega)
theorem spl2 {B : Int → Int} {h n a b : Int} : spl B h n [a, b] = true ↔ n = 2 ∧ B h = a ∧ B (h + 1) = b := by
  unfold spl spe spe spe
  simp only [List.length_cons, List.length_nil, Bool.and_eq_true, decide_eq_true_eq, and_true]
  constructor <;> (intro z; omega)
theorem spl3 {B : Int → Int} {h n a b c : Int} : spl B h n [a, b, c] = true ↔ n = 3 ∧ B h = a ∧ B (h + 1) = b ∧ B (h + 2) = c := by
  unfold spl spe spe spe spe
  rw [show h + 1 + 1 = h + 2 by omega]
  simp only [List.length_cons, List.length_nil, Bool.and_eq_true, decide_eq_true_eq, and_true]
  constructor <;> (intro z; omega)
theorem spl4 {B : Int → Int} {h n a b c d : Int} : spl B h n [a, b, c, d] = true ↔ n = 4 ∧ B h = a ∧ B (h + 1) = b ∧ B (h + 2) = c ∧ B (h + 3) = d := by
  unfold spl spe spe spe spe spe
  rw [show h + 1 + 1 = h + 2 by omega, show h + 2 + 1 = h + 3 by omega]
  simp only [List.length_cons, List.length_nil, Bool.and_eq_true, decide_eq_true_eq, and_true]
  constructor <;> (intro z; omega)
theorem spl5 {B : Int → Int} {h n a b c d e : Int} : spl B h n [a, b, c, d, e] = true ↔ n = 5 ∧ B h = a ∧ B (h + 1) = b ∧ B (h + 2) = c ∧ B (h + 3) = d ∧ B (h + 4) = e := by
  unfold spl spe spe spe spe spe spe
  rw [show h + 1 + 1 = h + 2 by omega, show h + 2 + 1 = h + 3 by omega, show h + 3 + 1 = h + 4 by omega]
  simp only [List.length_cons, List.length_nil, Bool.and_eq_true, decide_eq_true_eq, and_true]
  constructor <;> (intro z; omega)
theorem kon_1 {B : Int → Int} {h : Int} (hl : ∀ i : Int, h ≤ i → i < h + 1 → 97 ≤ B i ∧ B i ≤ 122) : wco (whs B h 1) = kon B h 1 := by
  have w1 : whs B h 1 = B h - 96 := by
    show (if 0 < 5 then 27 * 0 + B (h + ((0 : Nat) : Int)) - 96 else -1) = _
    rw [if_pos (by decide), show h + ((0 : Nat) : Int) = h by omega]; omega
  have l0 := hl h (by omega) (by omega)
  have hb : 1 ≤ whs B h 1 ∧ whs B h 1 ≤ 26 := by omega
  have e6 : whs B h 1 = 14 ↔ (B h = 110) := by constructor <;> (intro z; omega)
  have e7 : whs B h 1 = 13 ↔ (B h = 109) := by constructor <;> (intro z; omega)
  generalize whs B h 1 = w at *
  unfold kon wco
  rw [if_neg (show ¬ w = 8740238 by omega), if_neg (show ¬ spl B h 1 [112, 108, 97, 105, 110] = true from fun z => absurd (spl5.mp z).1 (by omega))]
  rw [if_neg (show ¬ w = 10421318 by omega), if_neg (show ¬ spl B h 1 [115, 112, 108, 105, 116] = true from fun z => absurd (spl5.mp z).1 (by omega))]
  rw [if_neg (show ¬ w = 409469 by omega), if_neg (show ¬ spl B h 1 [116, 117, 114, 110] = true from fun z => absurd (spl4.mp z).1 (by omega))]
  rw [if_neg (show ¬ w = 423 by omega), if_neg (show ¬ spl B h 1 [111, 114] = true from fun z => absurd (spl2.mp z).1 (by omega))]
  rw [if_neg (show ¬ w = 1111 by omega), if_neg (show ¬ spl B h 1 [97, 110, 100] = true from fun z => absurd (spl3.mp z).1 (by omega))]
  rw [if_neg (show ¬ w = 10631 by omega), if_neg (show ¬ spl B h 1 [110, 111, 116] = true from fun z => absurd (spl3.mp z).1 (by omega))]
  by_cases c6 : B h = 110
  · rw [if_pos (e6.mpr c6), if_pos (show spl B h 1 [110] = true from spl1.mpr ⟨rfl, c6⟩)]
  · rw [if_neg (show ¬ w = 14 from fun z => c6 (e6.mp z)), if_neg (show ¬ spl B h 1 [110] = true from fun z => c6 (spl1.mp z).2)]
    by_cases c7 : B h = 109
    · rw [if_pos (e7.mpr c7), if_pos (show spl B h 1 [109] = true from spl1.mpr ⟨rfl, c7⟩)]
    · rw [if_neg (show ¬ w = 13 from fun z => c7 (e7.mp z)), if_neg (show ¬ spl B h 1 [109] = true from fun z => c7 (spl1.mp z).2)]
      rw [if_neg (show ¬ w = 381245 by omega), if_neg (show ¬ spl B h 1 [115, 105, 122, 101] = true from fun z => absurd (spl4.mp z).1 (by omega))]
      rw [if_neg (show ¬ w = 2774 by omega), if_neg (show ¬ spl B h 1 [99, 117, 116] = true from fun z => absurd (spl3.mp z).1 (by omega))]
      rw [if_neg (show ¬ w = 223456 by omega), if_neg (show ¬ spl B h 1 [107, 105, 110, 100] = true from fun z => absurd (spl4.mp z).1 (by omega))]
      rw [if_neg (show ¬ w = 375062 by omega), if_neg (show ¬ spl B h 1 [115, 97, 109, 101] = true from fun z => absurd (spl4.mp z).1 (by omega))]
      skip
theorem kon_2 {B : Int → Int} {h : Int} (hl : ∀ i : Int, h ≤ i → i < h + 2 → 97 ≤ B i ∧ B i ≤ 122) : wco (whs B h 2) = kon B h 2 := by
  have w1 : whs B h 1 = B h - 96 := by
    show (if 0 < 5 then 27 * 0 + B (h + ((0 : Nat) : Int)) - 96 else -1) = _
    rw [if_pos (by decide), show h + ((0 : Nat) : Int) = h by omega]; omega
  have w2 : whs B h 2 = 27 * whs B h 1 + B (h + 1) - 96 := if_pos (by decide)
  have l0 := hl h (by omega) (by omega)
  have l1 := hl (h + 1) (by omega) (by omega)
  have hb : 28 ≤ whs B h 2 ∧ whs B h 2 ≤ 728 := by omega
  have e3 : whs B h 2 = 423 ↔ (B h = 111 ∧ B (h + 1) = 114) := by constructor <;> (intro z; omega)
  generalize whs B h 2 = w at *
  unfold kon wco
  rw [if_neg (show ¬ w = 8740238 by omega), if_neg (show ¬ spl B h 2 [112, 108, 97, 105, 110] = true from fun z => absurd (spl5.mp z).1 (by omega))]
  rw [if_neg (show ¬ w = 10421318 by omega), if_neg (show ¬ spl B h 2 [115, 112, 108, 105, 116] = true from fun z => absurd (spl5.mp z).1 (by omega))]
  rw [if_neg (show ¬ w = 409469 by omega), if_neg (show ¬ spl B h 2 [116, 117, 114, 110] = true from fun z => absurd (spl4.mp z).1 (by omega))]
  by_cases c3 : B h = 111 ∧ B (h + 1) = 114
  · rw [if_pos (e3.mpr c3), if_pos (show spl B h 2 [111, 114] = true from spl2.mpr ⟨rfl, c3⟩)]
  · rw [if_neg (show ¬ w = 423 from fun z => c3 (e3.mp z)), if_neg (show ¬ spl B h 2 [111, 114] = true from fun z => c3 (spl2.mp z).2)]
    rw [if_neg (show ¬ w = 1111 by omega), if_neg (show ¬ spl B h 2 [97, 110, 100] = true from fun z => absurd (spl3.mp z).1 (by omega))]
    rw [if_neg (show ¬ w = 10631 by omega), if_neg (show ¬ spl B h 2 [110, 111, 116] = true from fun z => absurd (spl3.mp z).1 (by omega))]
    rw [if_neg (show ¬ w = 14 by omega), if_neg (show ¬ spl B h 2 [110] = true from fun z => absurd (spl1.mp z).1 (by omega))]
    rw [if_neg (show ¬ w = 13 by omega), if_neg (show ¬ spl B h 2 [109] = true from fun z => absurd (spl1.mp z).1 (by omega))]
    rw [if_neg (show ¬ w = 381245 by omega), if_neg (show ¬ spl B h 2 [115, 105, 122, 101] = true from fun z => absurd (spl4.mp z).1 (by omega))]
    rw [if_neg (show ¬ w = 2774 by omega), if_neg (show ¬ spl B h 2 [99, 117, 116] = true from fun z => absurd (spl3.mp z).1 (by omega))]
    rw [if_neg (show ¬ w = 223456 by omega), if_neg (show ¬ spl B h 2 [107, 105, 110, 100] = true from fun z => absurd (spl4.mp z).1 (by omega))]
    rw [if_neg (show ¬ w = 375062 by omega), if_neg (show ¬ spl B h 2 [115, 97, 109, 101] = true from fun z => absurd (spl4.mp z).1 (by omega))]
    skip
theorem kon_3 {B : Int → Int} {h : Int} (hl : ∀ i : Int, h ≤ i → i < h + 3 → 97 ≤ B i ∧ B i ≤ 122) : wco (whs B h 3) = kon B h 3 := by
  have w1 : whs B h 1 = B h - 96 := by
    show (if 0 < 5 then 27 * 0 + B (h + ((0 : Nat) : Int)) - 96 else -1) = _
    rw [if_pos (by decide), show h + ((0 : Nat) : Int) = h by omega]; omega
  have w2 : whs B h 2 = 27 * whs B h 1 + B (h + 1) - 96 := if_pos (by decide)
  have w3 : whs B h 3 = 27 * whs B h 2 + B (h + 2) - 96 := if_pos (by decide)
  have l0 := hl h (by omega) (by omega)
  have l1 := hl (h + 1) (by omega) (by omega)
  have l2 := hl (h + 2) (by omega) (by omega)
  have hb : 757 ≤ whs B h 3 ∧ whs B h 3 ≤ 19682 := by omega
  have e4 : whs B h 3 = 1111 ↔ (B h = 97 ∧ B (h + 1) = 110 ∧ B (h + 2) = 100) := by constructor <;> (intro z; omega)
  have e5 : whs B h 3 = 10631 ↔ (B h = 110 ∧ B (h + 1) = 111 ∧ B (h + 2) = 116) := by constructor <;> (intro z; omega)
  have e9 : whs B h 3 = 2774 ↔ (B h = 99 ∧ B (h + 1) = 117 ∧ B (h + 2) = 116) := by constructor <;> (intro z; omega)
  generalize whs B h 3 = w at *
  unfold kon wco
  rw [if_neg (show ¬ w = 8740238 by omega), if_neg (show ¬ spl B h 3 [112, 108, 97, 105, 110] = true from fun z => absurd (spl5.mp z).1 (by omega))]
  rw [if_neg (show ¬ w = 10421318 by omega), if_neg (show ¬ spl B h 3 [115, 112, 108, 105, 116] = true from fun z => absurd (spl5.mp z).1 (by omega))]
  rw [if_neg (show ¬ w = 409469 by omega), if_neg (show ¬ spl B h 3 [116, 117, 114, 110] = true from fun z => absurd (spl4.mp z).1 (by omega))]
  rw [if_neg (show ¬ w = 423 by omega), if_neg (show ¬ spl B h 3 [111, 114] = true from fun z => absurd (spl2.mp z).1 (by omega))]
  by_cases c4 : B h = 97 ∧ B (h + 1) = 110 ∧ B (h + 2) = 100
  · rw [if_pos (e4.mpr c4), if_pos (show spl B h 3 [97, 110, 100] = true from spl3.mpr ⟨rfl, c4⟩)]
  · rw [if_neg (show ¬ w = 1111 from fun z => c4 (e4.mp z)), if_neg (show ¬ spl B h 3 [97, 110, 100] = true from fun z => c4 (spl3.mp z).2)]
    by_cases c5 : B h = 110 ∧ B (h + 1) = 111 ∧ B (h + 2) = 116
    · rw [if_pos (e5.mpr c5), if_pos (show spl B h 3 [110, 111, 116] = true from spl3.mpr ⟨rfl, c5⟩)]
    · rw [if_neg (show ¬ w = 10631 from fun z => c5 (e5.mp z)), if_neg (show ¬ spl B h 3 [110, 111, 116] = true from fun z => c5 (spl3.mp z).2)]
      rw [if_neg (show ¬ w = 14 by omega), if_neg (show ¬ spl B h 3 [110] = true from fun z => absurd (spl1.mp z).1 (by omega))]
      rw [if_neg (show ¬ w = 13 by omega), if_neg (show ¬ spl B h 3 [109] = true from fun z => absurd (spl1.mp z).1 (by omega))]
      rw [if_neg (show ¬ w = 381245 by omega), if_neg (show ¬ spl B h 3 [115, 105, 122, 101] = true from fun z => absurd (spl4.mp z).1 (by omega))]
      by_cases c9 : B h = 99 ∧ B (h + 1) = 117 ∧ B (h + 2) = 116
      · rw [if_pos (e9.mpr c9), if_pos (show spl B h 3 [99, 117, 116] = true from spl3.mpr ⟨rfl, c9⟩)]
      · rw [if_neg (show ¬ w = 2774 from fun z => c9 (e9.mp z)), if_neg (show ¬ spl B h 3 [99, 117, 116] = true from fun z => c9 (spl3.mp z).2)]
        rw [if_neg (show ¬ w = 223456 by omega), if_neg (show ¬ spl B h 3 [107, 105, 110, 100] = true from fun z => absurd (spl4.mp z).1 (by omega))]
        rw [if_neg (show ¬ w = 375062 by omega), if_neg (show ¬ spl B h 3 [115, 97, 109, 101] = true from fun z => absurd (spl4.mp z).1 (by omega))]
        skip
theorem kon_4 {B : Int → Int} {h : Int} (hl : ∀ i : Int, h ≤ i → i < h + 4 → 97 ≤ B i ∧ B i ≤ 122) : wco (whs B h 4) = kon B h 4 := by
  have w1 : whs B h 1 = B h - 96 := by
    show (if 0 < 5 then 27 * 0 + B (h + ((0 : Nat) : Int)) - 96 else -1) = _
    rw [if_pos (by decide), show h + ((0 : Nat) : Int) = h by omega]; omega
  have w2 : whs B h 2 = 27 * whs B h 1 + B (h + 1) - 96 := if_pos (by decide)
  have w3 : whs B h 3 = 27 * whs B h 2 + B (h + 2) - 96 := if_pos (by decide)
  have w4 : whs B h 4 = 27 * whs B h 3 + B (h + 3) - 96 := if_pos (by decide)
  have l0 := hl h (by omega) (by omega)
  have l1 := hl (h + 1) (by omega) (by omega)
  have l2 := hl (h + 2) (by omega) (by omega)
  have l3 := hl (h + 3) (by omega) (by omega)
  have hb : 20440 ≤ whs B h 4 ∧ whs B h 4 ≤ 531440 := by omega
  have e2 : whs B h 4 = 409469 ↔ (B h = 116 ∧ B (h + 1) = 117 ∧ B (h + 2) = 114 ∧ B (h + 3) = 110) := by constructor <;> (intro z; omega)
  have e8 : whs B h 4 = 381245 ↔ (B h = 115 ∧ B (h + 1) = 105 ∧ B (h + 2) = 122 ∧ B (h + 3) = 101) := by constructor <;> (intro z; omega)
  have e10 : whs B h 4 = 223456 ↔ (B h = 107 ∧ B (h + 1) = 105 ∧ B (h + 2) = 110 ∧ B (h + 3) = 100) := by constructor <;> (intro z; omega)
  have e11 : whs B h 4 = 375062 ↔ (B h = 115 ∧ B (h + 1) = 97 ∧ B (h + 2) = 109 ∧ B (h + 3) = 101) := by constructor <;> (intro z; omega)
  generalize whs B h 4 = w at *
  unfold kon wco
  rw [if_neg (show ¬ w = 8740238 by omega), if_neg (show ¬ spl B h 4 [112, 108, 97, 105, 110] = true from fun z => absurd (spl5.mp z).1 (by omega))]
  rw [if_neg (show ¬ w = 10421318 by omega), if_neg (show ¬ spl B h 4 [115, 112, 108, 105, 116] = true from fun z => absurd (spl5.mp z).1 (by omega))]
  by_cases c2 : B h = 116 ∧ B (h + 1) = 117 ∧ B (h + 2) = 114 ∧ B (h + 3) = 110
  · rw [if_pos (e2.mpr c2), if_pos (show spl B h 4 [116, 117, 114, 110] = true from spl4.mpr ⟨rfl, c2⟩)]
  · rw [if_neg (show ¬ w = 409469 from fun z => c2 (e2.mp z)), if_neg (show ¬ spl B h 4 [116, 117, 114, 110] = true from fun z => c2 (spl4.mp z).2)]
    rw [if_neg (show ¬ w = 423 by omega), if_neg (show ¬ spl B h 4 [111, 114] = true from fun z => absurd (spl2.mp z).1 (by omega))]
    rw [if_neg (show ¬ w = 1111 by omega), if_neg (show ¬ spl B h 4 [97, 110, 100] = true from fun z => absurd (spl3.mp z).1 (by omega))]
    rw [if_neg (show ¬ w = 10631 by omega), if_neg (show ¬ spl B h 4 [110, 111, 116] = true from fun z => absurd (spl3.mp z).1 (by omega))]
    rw [if_neg (show ¬ w = 14 by omega), if_neg (show ¬ spl B h 4 [110] = true from fun z => absurd (spl1.mp z).1 (by omega))]
    rw [if_neg (show ¬ w = 13 by omega), if_neg (show ¬ spl B h 4 [109] = true from fun z => absurd (spl1.mp z).1 (by omega))]
    by_cases c8 : B h = 115 ∧ B (h + 1) = 105 ∧ B (h + 2) = 122 ∧ B (h + 3) = 101
    · rw [if_pos (e8.mpr c8), if_pos (show spl B h 4 [115, 105, 122, 101] = true from spl4.mpr ⟨rfl, c8⟩)]
    · rw [if_neg (show ¬ w = 381245 from fun z => c8 (e8.mp z)), if_neg (show ¬ spl B h 4 [115, 105, 122, 101] = true from fun z => c8 (spl4.mp z).2)]
      rw [if_neg (show ¬ w = 2774 by omega), if_neg (show ¬ spl B h 4 [99, 117, 116] = true from fun z => absurd (spl3.mp z).1 (by omega))]
      by_cases c10 : B h = 107 ∧ B (h + 1) = 105 ∧ B (h + 2) = 110 ∧ B (h + 3) = 100
      · rw [if_pos (e10.mpr c10), if_pos (show spl B h 4 [107, 105, 110, 100] = true from spl4.mpr ⟨rfl, c10⟩)]
      · rw [if_neg (show ¬ w = 223456 from fun z => c10 (e10.mp z)), if_neg (show ¬ spl B h 4 [107, 105, 110, 100] = true from fun z => c10 (spl4.mp z).2)]
        by_cases c11 : B h = 115 ∧ B (h + 1) = 97 ∧ B (h + 2) = 109 ∧ B (h + 3) = 101
        · rw [if_pos (e11.mpr c11), if_pos (show spl B h 4 [115, 97, 109, 101] = true from spl4.mpr ⟨rfl, c11⟩)]
        · rw [if_neg (show ¬ w = 375062 from fun z => c11 (e11.mp z)), if_neg (show ¬ spl B h 4 [115, 97, 109, 101] = true from fun z => c11 (spl4.mp z).2)]
          skip
theorem kon_5 {B : Int → Int} {h : Int} (hl : ∀ i : Int, h ≤ i → i < h + 5 → 97 ≤ B i ∧ B i ≤ 122) : wco (whs B h 5) = kon B h 5 := by
  have w1 : whs B h 1 = B h - 96 := by
    show (if 0 < 5 then 27 * 0 + B (h + ((0 : Nat) : Int)) - 96 else -1) = _
    rw [if_pos (by decide), show h + ((0 : Nat) : Int) = h by omega]; omega
  have w2 : whs B h 2 = 27 * whs B h 1 + B (h + 1) - 96 := if_pos (by decide)
  have w3 : whs B h 3 = 27 * whs B h 2 + B (h + 2) - 96 := if_pos (by decide)
  have w4 : whs B h 4 = 27 * whs B h 3 + B (h + 3) - 96 := if_pos (by decide)
  have w5 : whs B h 5 = 27 * whs B h 4 + B (h + 4) - 96 := if_pos (by decide)
  have l0 := hl h (by omega) (by omega)
  have l1 := hl (h + 1) (by omega) (by omega)
  have l2 := hl (h + 2) (by omega) (by omega)
  have l3 := hl (h + 3) (by omega) (by omega)
  have l4 := hl (h + 4) (by omega) (by omega)
  have hb : 551881 ≤ whs B h 5 ∧ whs B h 5 ≤ 14348906 := by omega
  have e0 : whs B h 5 = 8740238 ↔ (B h = 112 ∧ B (h + 1) = 108 ∧ B (h + 2) = 97 ∧ B (h + 3) = 105 ∧ B (h + 4) = 110) := by constructor <;> (intro z; omega)
  have e1 : whs B h 5 = 10421318 ↔ (B h = 115 ∧ B (h + 1) = 112 ∧ B (h + 2) = 108 ∧ B (h + 3) = 105 ∧ B (h + 4) = 116) := by constructor <;> (intro z; omega)
  generalize whs B h 5 = w at *
  unfold kon wco
  by_cases c0 : B h = 112 ∧ B (h + 1) = 108 ∧ B (h + 2) = 97 ∧ B (h + 3) = 105 ∧ B (h + 4) = 110
  · rw [if_pos (e0.mpr c0), if_pos (show spl B h 5 [112, 108, 97, 105, 110] = true from spl5.mpr ⟨rfl, c0⟩)]
  · rw [if_neg (show ¬ w = 8740238 from fun z => c0 (e0.mp z)), if_neg (show ¬ spl B h 5 [112, 108, 97, 105, 110] = true from fun z => c0 (spl5.mp z).2)]
    by_cases c1 : B h = 115 ∧ B (h + 1) = 112 ∧ B (h + 2) = 108 ∧ B (h + 3) = 105 ∧ B (h + 4) = 116
    · rw [if_pos (e1.mpr c1), if_pos (show spl B h 5 [115, 112, 108, 105, 116] = true from spl5.mpr ⟨rfl, c1⟩)]
    · rw [if_neg (show ¬ w = 10421318 from fun z => c1 (e1.mp z)), if_neg (show ¬ spl B h 5 [115, 112, 108, 105, 116] = true from fun z => c1 (spl5.mp z).2)]
      rw [if_neg (show ¬ w = 409469 by omega), if_neg (show ¬ spl B h 5 [116, 117, 114, 110] = true from fun z => absurd (spl4.mp z).1 (by omega))]
      rw [if_neg (show ¬ w = 423 by omega), if_neg (show ¬ spl B h 5 [111, 114] = true from fun z => absurd (spl2.mp z).1 (by omega))]
      rw [if_neg (show ¬ w = 1111 by omega), if_neg (show ¬ spl B h 5 [97, 110, 100] = true from fun z => absurd (spl3.mp z).1 (by omega))]
      rw [if_neg (show ¬ w = 10631 by omega), if_neg (show ¬ spl B h 5 [110, 111, 116] = true from fun z => absurd (spl3.mp z).1 (by omega))]
      rw [if_neg (show ¬ w = 14 by omega), if_neg (show ¬ spl B h 5 [110] = true from fun z => absurd (spl1.mp z).1 (by omega))]
      rw [if_neg (show ¬ w = 13 by omega), if_neg (show ¬ spl B h 5 [109] = true from fun z => absurd (spl1.mp z).1 (by omega))]
      rw [if_neg (show ¬ w = 381245 by omega), if_neg (show ¬ spl B h 5 [115, 105, 122, 101] = true from fun z => absurd (spl4.mp z).1 (by omega))]
      rw [if_neg (show ¬ w = 2774 by omega), if_neg (show ¬ spl B h 5 [99, 117, 116] = true from fun z => absurd (spl3.mp z).1 (by omega))]
      rw [if_neg (show ¬ w = 223456 by omega), if_neg (show ¬ spl B h 5 [107, 105, 110, 100] = true from fun z => absurd (spl4.mp z).1 (by omega))]
      rw [if_neg (show ¬ w = 375062 by omega), if_neg (show ¬ spl B h 5 [115, 97, 109, 101] = true from fun z => absurd (spl4.mp z).1 (by omega))]
      skip
theorem kon_wco {B : Int → Int} {h : Int} {n : Nat} (hl : ∀ i : Int, h ≤ i → i < h + n → 97 ≤ B i ∧ B i ≤ 122) (hn : 1 ≤ n) : wco (whs B h n) = kon B h n := by
  by_cases h6 : 5 < n
  · obtain ⟨m, rfl⟩ : ∃ m : Nat, n = m + 1 := ⟨n - 1, by omega⟩
    have e : whs B h (m + 1) = -1 := if_neg (by omega)
    rw [e]
    unfold kon
    simp only [spl1, spl2, spl3, spl4, spl5]
    rw [if_neg (by omega), if_neg (by omega), if_neg (by omega), if_neg (by omega), if_neg (by omega), if_neg (by omega), if_neg (by omega), if_neg (by omega), if_neg (by omega), if_neg (by omega), if_neg (by omega), if_neg (by omega)]
    rfl
  · have hn5 : n = 1 ∨ n = 2 ∨ n = 3 ∨ n = 4 ∨ n = 5 := by omega
    rcases hn5 with e | e | e | e | e
    · subst e; exact kon_1 hl
    · subst e; exact kon_2 hl
    · subst e; exact kon_3 hl
    · subst e; exact kon_4 hl
    · subst e; exact kon_5 hl
theorem kon_cod {B : Int → Int} {h n : Int} : (257 ≤ kon B h n ∧ kon B h n ≤ 275) ∧ kon B h n ≠ 258 ∧ kon B h n ≠ 259 := by
  unfold kon
  repeat' split
  all_goals omega
theorem nmb_ge {B : Int → Int} {h : Int} : ∀ {n : Nat}, (∀ i : Int, h ≤ i → i < h + n → 48 ≤ B i ∧ B i ≤ 57) → 0 ≤ nmb B h n
  | 0, _ => Int.le_refl _
  | n + 1, hd => by
    have h1 := nmb_ge (B := B) (h := h) (n := n) (fun i a b => hd i a (by omega))
    have h2 := hd (h + n) (by omega) (by omega)
    show 0 ≤ 10 * nmb B h n + B (h + n) - 48
    omega
theorem nmb_le {B : Int → Int} {h : Int} {n : Nat} (hn : n ≤ 4) (hd : ∀ i : Int, h ≤ i → i < h + n → 48 ≤ B i ∧ B i ≤ 57) : nmb B h n ≤ 9999 := by
  have e : n = 0 ∨ n = 1 ∨ n = 2 ∨ n = 3 ∨ n = 4 := by omega
  have n1 : nmb B h 1 = B h - 48 := by
    show 10 * 0 + B (h + ((0 : Nat) : Int)) - 48 = _
    rw [show h + ((0 : Nat) : Int) = h by omega]; omega
  have n2 : nmb B h 2 = 10 * nmb B h 1 + B (h + 1) - 48 := rfl
  have n3 : nmb B h 3 = 10 * nmb B h 2 + B (h + 2) - 48 := rfl
  have n4 : nmb B h 4 = 10 * nmb B h 3 + B (h + 3) - 48 := rfl
  rcases e with e | e | e | e | e
  · subst e
    show (0 : Int) ≤ 9999
    decide
  · subst e
    have l0 := hd h (by omega) (by omega)
    omega
  · subst e
    have l0 := hd h (by omega) (by omega)
    have l1 := hd (h + 1) (by omega) (by omega)
    omega
  · subst e
    have l0 := hd h (by omega) (by omega)
    have l1 := hd (h + 1) (by omega) (by omega)
    have l2 := hd (h + 2) (by omega) (by omega)
    omega
  · subst e
    have l0 := hd h (by omega) (by omega)
    have l1 := hd (h + 1) (by omega) (by omega)
    have l2 := hd (h + 2) (by omega) (by omega)
    have l3 := hd (h + 3) (by omega) (by omega)
    omega
/-- the token whose first byte is at h: what it is, where the next may begin -/
def tkc (B : Int → Int) (h : Int) : Int := if B h < 0 then 256 else if isl (B h) = true then kon B h (spn isl B 161 h - h) else if isd (B h) = true then (if 4 < spn isd B 161 h - h then 257 else 1000 + nmb B h (spn isd B 161 h - h).toNat) else if isg (B h) = true then B h else 257
def tke (B : Int → Int) (h : Int) : Int := if B h < 0 then h else if isl (B h) = true then spn isl B 161 h else if isd (B h) = true then spn isd B 161 h else h + 1
/-- where token k is sought; where it begins; what it is; its place for a FAULT -/
def tps (B : Int → Int) : Nat → Int
  | 0 => 0
  | k + 1 => tke B (spn isb B 161 (tps B k))
def tk1 (B : Int → Int) (k : Nat) : Int := spn isb B 161 (tps B k)
def tkk (B : Int → Int) (k : Nat) : Int := tkc B (tk1 B k)
def tka (N : Int) (B : Int → Int) (k : Nat) : Int := if B (tk1 B k) < 0 then N else tk1 B k
theorem tke_bd {B : Int → Int} {N h : Int} (hB : IsB N B) (h0 : 0 ≤ h ∧ h ≤ N) : h ≤ tke B h ∧ tke B h ≤ N ∧ (0 ≤ B h → h + 1 ≤ tke B h) := by
  unfold tke
  have hx : 0 ≤ B h → h < N := fun hz => by
    by_cases z : N ≤ h
    · have := hB.2.1 h z; omega
    · omega
  by_cases c : B h < 0
  · rw [if_pos c]; omega
  · have hN := hx (by omega)
    rw [if_neg c]
    by_cases c1 : isl (B h) = true
    · rw [if_pos c1]
      have e := spn_step hB (P := isl) (by decide) h0.1 c1
      have g1 := spn_ge (P := isl) (B := B) 161 (h + 1)
      have g2 := spn_le hB (P := isl) (by decide) 161 (h + 1) (by omega)
      rw [e]; omega
    · rw [if_neg c1]
      by_cases c2 : isd (B h) = true
      · rw [if_pos c2]
        have e := spn_step hB (P := isd) (by decide) h0.1 c2
        have g1 := spn_ge (P := isd) (B := B) 161 (h + 1)
        have g2 := spn_le hB (P := isd) (by decide) 161 (h + 1) (by omega)
        rw [e]; omega
      · rw [if_neg c2]; omega
theorem tps_bd {B : Int → Int} {N : Int} (hB : IsB N B) : ∀ k : Nat, 0 ≤ tps B k ∧ tps B k ≤ N
  | 0 => ⟨Int.le_refl _, hB.1.1⟩
  | k + 1 => by
    have h := tps_bd hB k
    have h1 := spn_ge (P := isb) (B := B) 161 (tps B k)
    have h2 := spn_le hB (P := isb) (by decide) 161 (tps B k) h.2
    have h3 := tke_bd hB (h := spn isb B 161 (tps B k)) (by omega)
    show 0 ≤ tke B (spn isb B 161 (tps B k)) ∧ tke B (spn isb B 161 (tps B k)) ≤ N
    omega
theorem tk1_bd {B : Int → Int} {N : Int} (hB : IsB N B) (k : Nat) : tps B k ≤ tk1 B k ∧ tk1 B k ≤ N ∧ (B (tk1 B k) < 0 ↔ tk1 B k = N) := by
  have h := tps_bd hB k
  have h1 := spn_ge (P := isb) (B := B) 161 (tps B k)
  have h2 := spn_le hB (P := isb) (by decide) 161 (tps B k) h.2
  refine ⟨h1, h2, fun z => ?_, fun z => ?_⟩
  · by_cases e : tk1 B k < N
    · have := hB.2.2 (tk1 B k) (by unfold tk1; omega) e
      omega
    · unfold tk1 at e ⊢; omega
  · rw [z, hB.2.1 N (Int.le_refl _)]; decide
theorem tkc_end {B : Int → Int} {h : Int} {N : Int} (hB : IsB N B) (h0 : 0 ≤ h) : tkc B h = 256 ↔ B h < 0 := by
  unfold tkc
  by_cases c : B h < 0
  · rw [if_pos c]; exact ⟨fun _ => c, fun _ => rfl⟩
  · rw [if_neg c]
    refine ⟨fun z => ?_, fun z => absurd z c⟩
    exfalso
    by_cases c1 : isl (B h) = true
    · rw [if_pos c1] at z
      have := kon_cod (B := B) (h := h) (n := spn isl B 161 h - h)
      omega
    · rw [if_neg c1] at z
      by_cases c2 : isd (B h) = true
      · rw [if_pos c2] at z
        have := nmb_ge (B := B) (h := h) (n := (spn isd B 161 h - h).toNat) (fun i a b => isd_iff.mp (spn_in 161 h i a (by have := spn_ge (P := isd) (B := B) 161 h; omega)))
        by_cases c3 : 4 < spn isd B 161 h - h
        · rw [if_pos c3] at z; omega
        · rw [if_neg c3] at z; omega
      · rw [if_neg c2] at z
        by_cases c4 : isg (B h) = true
        · rw [if_pos c4] at z
          have := isg_iff.mp c4
          omega
        · rw [if_neg c4] at z; omega
theorem tkk_end {B : Int → Int} {N : Int} (hB : IsB N B) (k : Nat) : tkk B k = 256 ↔ tk1 B k = N := by
  have h := tps_bd hB k
  have h1 := tk1_bd hB k
  rw [← h1.2.2]
  exact tkc_end hB (by omega)
theorem tps_lt {B : Int → Int} {N : Int} (hB : IsB N B) {k : Nat} (h : tkk B k ≠ 256) : tps B k < tps B (k + 1) ∧ tps B k < N := by
  have a := tps_bd hB k
  have b := tk1_bd hB k
  have c : tk1 B k ≠ N := fun z => h ((tkk_end hB k).mpr z)
  have d := tke_bd hB (h := tk1 B k) (by omega)
  have e : 0 ≤ B (tk1 B k) := by
    have := hB.2.2 (tk1 B k) (by omega) (by omega)
    omega
  have f := d.2.2 e
  have : tps B (k + 1) = tke B (tk1 B k) := rfl
  omega
theorem tkk_stays {B : Int → Int} {N : Int} (hB : IsB N B) {k : Nat} (h : tkk B k = 256) : tkk B (k + 1) = 256 := by
  have b := tk1_bd hB k
  have c := (tkk_end hB k).mp h
  have e : tps B (k + 1) = N := by
    show tke B (tk1 B k) = N
    unfold tke
    rw [if_pos (b.2.2.mpr c)]; exact c
  have b' := tk1_bd hB (k + 1)
  exact (tkk_end hB (k + 1)).mpr (by omega)
theorem tkk_lt {B : Int → Int} {N : Int} (hB : IsB N B) : ∀ {k : Nat}, tkk B k ≠ 256 → (k : Int) ≤ tps B k
  | 0, _ => Int.le_refl _
  | k + 1, h => by
    have h1 : tkk B k ≠ 256 := fun z => h (tkk_stays hB z)
    have h2 := tkk_lt hB h1
    have h3 := tps_lt hB h1
    omega
theorem tkk_big {B : Int → Int} {N : Int} (hB : IsB N B) {k : Nat} (h : N ≤ k) : tkk B k = 256 := by
  by_cases c : tkk B k = 256
  · exact c
  · have h2 := tkk_lt hB c
    have h3 := tps_lt hB c
    omega
/-! what is read: the token at which it fails, or the token behind it and what is to be done -/
abbrev PR : Type := Nat ⊕ (Nat × List Int)
def bnd (r : PR) (f : Nat → List Int → PR) : PR := match r with
  | .inl k => .inl k
  | .inr (k, l) => f k l
/-- 0 ONE, 1 TERM, 2 SUM, 3 NOT, 4 AND, 5 E; 6 .. 9 what follows in a TERM, SUM, AND, E -/
def prs (tk : Nat → Int) : Nat → Nat → Nat → Nat → PR
  | 0, _, k, _ => .inl k
  | f + 1, 0, k, o => if tk k = 45 ∧ o < 5 then bnd (prs tk f 0 (k + 1) (o + 1)) (fun k1 l1 => .inr (k1, l1 ++ [-19]))
      else if tk k = 40 ∧ o < 5 then bnd (prs tk f 5 (k + 1) (o + 1)) (fun k1 l1 => if tk k1 = 41 then .inr (k1 + 1, l1) else .inl k1)
      else if 1000 ≤ tk k then .inr (k + 1, [tk k - 1000]) else if 270 ≤ tk k ∧ tk k ≤ 275 then .inr (k + 1, [269 - tk k]) else .inl k
  | f + 1, 1, k, o => bnd (prs tk f 0 k o) (fun k1 l1 => bnd (prs tk f 6 k1 o) (fun k2 l2 => .inr (k2, l1 ++ l2)))
  | f + 1, 2, k, o => bnd (prs tk f 1 k o) (fun k1 l1 => bnd (prs tk f 7 k1 o) (fun k2 l2 => .inr (k2, l1 ++ l2)))
  | f + 1, 3, k, o => if tk k = 265 ∧ o < 5 then bnd (prs tk f 3 (k + 1) (o + 1)) (fun k1 l1 => .inr (k1, l1 ++ [-13]))
      else bnd (prs tk f 2 k o) (fun k1 l1 => if tk k1 = 60 then bnd (prs tk f 2 (k1 + 1) o) (fun k2 l2 => .inr (k2, l1 ++ (l2 ++ [-14]))) else if tk k1 = 61 then bnd (prs tk f 2 (k1 + 1) o) (fun k2 l2 => .inr (k2, l1 ++ (l2 ++ [-15]))) else .inr (k1, l1))
  | f + 1, 4, k, o => bnd (prs tk f 3 k o) (fun k1 l1 => bnd (prs tk f 8 k1 o) (fun k2 l2 => .inr (k2, l1 ++ l2)))
  | f + 1, 5, k, o => bnd (prs tk f 4 k o) (fun k1 l1 => bnd (prs tk f 9 k1 o) (fun k2 l2 => .inr (k2, l1 ++ l2)))
  | f + 1, 6, k, o => if tk k = 42 then bnd (prs tk f 0 (k + 1) o) (fun k1 l1 => bnd (prs tk f 6 k1 o) (fun k2 l2 => .inr (k2, l1 ++ (-18 :: l2)))) else .inr (k, [])
  | f + 1, 7, k, o => if tk k = 43 then bnd (prs tk f 1 (k + 1) o) (fun k1 l1 => bnd (prs tk f 7 k1 o) (fun k2 l2 => .inr (k2, l1 ++ (-16 :: l2)))) else if tk k = 45 then bnd (prs tk f 1 (k + 1) o) (fun k1 l1 => bnd (prs tk f 7 k1 o) (fun k2 l2 => .inr (k2, l1 ++ (-17 :: l2)))) else .inr (k, [])
  | f + 1, 8, k, o => if tk k = 264 then bnd (prs tk f 3 (k + 1) o) (fun k1 l1 => bnd (prs tk f 8 k1 o) (fun k2 l2 => .inr (k2, l1 ++ (-12 :: l2)))) else .inr (k, [])
  | f + 1, 9, k, o => if tk k = 263 then bnd (prs tk f 4 (k + 1) o) (fun k1 l1 => bnd (prs tk f 9 k1 o) (fun k2 l2 => .inr (k2, l1 ++ (-11 :: l2)))) else .inr (k, [])
  | _ + 1, _ + 10, k, _ => .inl k
theorem bnd_inr {r : PR} {f : Nat → List Int → PR} {x : Nat × List Int} (h : bnd r f = .inr x) : ∃ k l, r = .inr (k, l) ∧ f k l = .inr x := by
  match r, h with
  | .inl _, h => cases h
  | .inr (k, l), h => exact ⟨k, l, rfl, h⟩
/-- tokens are read through, and no more is done than tokens were read -/
theorem prs_mono {tk : Nat → Int} {T : Nat} (hT : ∀ k : Nat, T ≤ k → tk k = 256) : ∀ (f nt k o k' : Nat) (l : List Int), prs tk f nt k o = .inr (k', l) → k ≤ T → (k ≤ k' ∧ k' ≤ T) ∧ l.length ≤ k' - k
  | 0, nt, k, o, k', l, h, _ => by cases h
  | f + 1, nt, k, o, k', l, h, hk => by
    have ih := prs_mono hT f
    have hlt : ∀ j : Nat, j ≤ T → tk j ≠ 256 → j + 1 ≤ T := fun j hj hne => by
      by_cases z : T ≤ j
      · exact absurd (hT j z) hne
      · omega
    have two : ∀ (n1 n2 : Nat), bnd (prs tk f n1 k o) (fun k1 l1 => bnd (prs tk f n2 k1 o) (fun k2 l2 => .inr (k2, l1 ++ l2))) = .inr (k', l) → (k ≤ k' ∧ k' ≤ T) ∧ l.length ≤ k' - k := fun n1 n2 h => by
      obtain ⟨k1, l1, e1, h⟩ := bnd_inr h
      obtain ⟨k2, l2, e2, h⟩ := bnd_inr h
      cases h
      have a := ih _ _ _ _ _ e1 hk
      have b := ih _ _ _ _ _ e2 a.1.2
      rw [List.length_append]
      omega
    have loop : ∀ (n1 n2 : Nat) (s : Int), tk k ≠ 256 → bnd (prs tk f n1 (k + 1) o) (fun k1 l1 => bnd (prs tk f n2 k1 o) (fun k2 l2 => .inr (k2, l1 ++ (s :: l2)))) = .inr (k', l) → (k ≤ k' ∧ k' ≤ T) ∧ l.length ≤ k' - k := fun n1 n2 s hne h => by
      have hk1 := hlt k hk hne
      obtain ⟨k1, l1, e1, h⟩ := bnd_inr h
      obtain ⟨k2, l2, e2, h⟩ := bnd_inr h
      cases h
      have a := ih _ _ _ _ _ e1 hk1
      have b := ih _ _ _ _ _ e2 a.1.2
      rw [List.length_append, List.length_cons]
      omega
    match nt, h with
    | 0, h =>
      unfold prs at h
      by_cases c1 : tk k = 45 ∧ o < 5
      · rw [if_pos c1] at h
        obtain ⟨k1, l1, e1, h⟩ := bnd_inr h
        cases h
        have a := ih _ _ _ _ _ e1 (hlt k hk (by omega))
        rw [List.length_append, List.length_cons, List.length_nil]
        omega
      · rw [if_neg c1] at h
        by_cases c2 : tk k = 40 ∧ o < 5
        · rw [if_pos c2] at h
          obtain ⟨k1, l1, e1, h⟩ := bnd_inr h
          have a := ih _ _ _ _ _ e1 (hlt k hk (by omega))
          by_cases c3 : tk k1 = 41
          · rw [if_pos c3] at h
            cases h
            have := hlt k1 a.1.2 (by omega)
            omega
          · rw [if_neg c3] at h; cases h
        · rw [if_neg c2] at h
          by_cases c3 : 1000 ≤ tk k
          · rw [if_pos c3] at h
            cases h
            have := hlt k hk (by omega)
            rw [List.length_cons, List.length_nil]
            omega
          · rw [if_neg c3] at h
            by_cases c4 : 270 ≤ tk k ∧ tk k ≤ 275
            · rw [if_pos c4] at h
              cases h
              have := hlt k hk (by omega)
              rw [List.length_cons, List.length_nil]
              omega
            · rw [if_neg c4] at h; cases h
    | 1, h => exact two 0 6 h
    | 2, h => exact two 1 7 h
    | 3, h =>
      unfold prs at h
      by_cases c1 : tk k = 265 ∧ o < 5
      · rw [if_pos c1] at h
        obtain ⟨k1, l1, e1, h⟩ := bnd_inr h
        cases h
        have a := ih _ _ _ _ _ e1 (hlt k hk (by omega))
        rw [List.length_append, List.length_cons, List.length_nil]
        omega
      · rw [if_neg c1] at h
        obtain ⟨k1, l1, e1, h⟩ := bnd_inr h
        have a := ih _ _ _ _ _ e1 hk
        by_cases c2 : tk k1 = 60
        · rw [if_pos c2] at h
          obtain ⟨k2, l2, e2, h⟩ := bnd_inr h
          cases h
          have b := ih _ _ _ _ _ e2 (hlt k1 a.1.2 (by omega))
          rw [List.length_append, List.length_append, List.length_cons, List.length_nil]
          omega
        · rw [if_neg c2] at h
          by_cases c3 : tk k1 = 61
          · rw [if_pos c3] at h
            obtain ⟨k2, l2, e2, h⟩ := bnd_inr h
            cases h
            have b := ih _ _ _ _ _ e2 (hlt k1 a.1.2 (by omega))
            rw [List.length_append, List.length_append, List.length_cons, List.length_nil]
            omega
          · rw [if_neg c3] at h
            cases h
            exact a
    | 4, h => exact two 3 8 h
    | 5, h => exact two 4 9 h
    | 6, h =>
      unfold prs at h
      by_cases c1 : tk k = 42
      · rw [if_pos c1] at h
        exact loop 0 6 (-18) (by omega) h
      · rw [if_neg c1] at h
        cases h
        rw [List.length_nil]; omega
    | 7, h =>
      unfold prs at h
      by_cases c1 : tk k = 43
      · rw [if_pos c1] at h
        exact loop 1 7 (-16) (by omega) h
      · rw [if_neg c1] at h
        by_cases c2 : tk k = 45
        · rw [if_pos c2] at h
          exact loop 1 7 (-17) (by omega) h
        · rw [if_neg c2] at h
          cases h
          rw [List.length_nil]; omega
    | 8, h =>
      unfold prs at h
      by_cases c1 : tk k = 264
      · rw [if_pos c1] at h
        exact loop 3 8 (-12) (by omega) h
      · rw [if_neg c1] at h
        cases h
        rw [List.length_nil]; omega
    | 9, h =>
      unfold prs at h
      by_cases c1 : tk k = 263
      · rw [if_pos c1] at h
        exact loop 4 9 (-11) (by omega) h
      · rw [if_neg c1] at h
        cases h
        rw [List.length_nil]; omega
    | n + 10, h => cases h
/-- a part of a TEXT, and the three of them -/
def prt (tk : Nat → Int) (key : Int) (k : Nat) : PR := if tk k = key then bnd (prs tk 2000 5 (k + 1) 0) (fun k1 l1 => if tk k1 = 59 then .inr (k1 + 1, l1) else .inl k1) else .inl k
def ptx (tk : Nat → Int) : Nat ⊕ (List Int × List Int × List Int) := match prt tk 260 0 with
  | .inl k => .inl k
  | .inr (k1, l1) => match prt tk 261 k1 with
    | .inl k => .inl k
    | .inr (k2, l2) => match prt tk 262 k2 with
      | .inl k => .inl k
      | .inr (k3, l3) => if tk k3 = 256 then .inr (l1, l2, l3) else .inl k3
/-! what is to be done, and what it gives -/
def bw (z : Int) : Int := (iI z).toInt
theorem iI_bw {z : Int} : iI (bw z) = iI z := iI_of _
theorem bw_bd {z : Int} : -2147483648 ≤ bw z ∧ bw z ≤ 2147483647 := ⟨Int32.le_toInt _, by have := Int32.toInt_lt (iI z); unfold bw; omega⟩
def of2 (s a b : Int) : Int := if s = -11 then (if a ≠ 0 ∨ b ≠ 0 then 1 else 0) else if s = -12 then (if a ≠ 0 ∧ b ≠ 0 then 1 else 0) else if s = -14 then (if a < b then 1 else 0) else if s = -15 then (if a = b then 1 else 0) else if s = -16 then bw (a + b) else if s = -17 then bw (a - b) else bw (a * b)
def stp (env : Int → Int) (s : Int) (st : List Int) : List Int := if 0 ≤ s then s :: st else if -6 ≤ s then env (-1 - s) :: st else if s = -13 then (if st.headD 0 = 0 then 1 else 0) :: st.tail else if s = -19 then bw (-(st.headD 0)) :: st.tail else of2 s (st.tail.headD 0) (st.headD 0) :: st.tail.tail
def rnn (env : Int → Int) : List Int → List Int → List Int
  | [], st => st
  | s :: l, st => rnn env l (stp env s st)
theorem rnn_app {env : Int → Int} : ∀ (l l' st : List Int), rnn env (l ++ l') st = rnn env l' (rnn env l st)
  | [], _, _ => rfl
  | s :: l, l', st => rnn_app l l' (stp env s st)
/-- l lays v on top -/
def Val (env : Int → Int) (l : List Int) (v : Int) : Prop := (∀ st : List Int, rnn env l st = v :: st) ∧ -2147483648 ≤ v ∧ v ≤ 2147483647
/-- l makes v out of v0 on top -/
def VaL (env : Int → Int) (l : List Int) (v0 v : Int) : Prop := (∀ st : List Int, rnn env l (v0 :: st) = v :: st) ∧ -2147483648 ≤ v ∧ v ≤ 2147483647
theorem Val_app {env : Int → Int} {l l' : List Int} {v0 v : Int} (h : Val env l v0) (h' : VaL env l' v0 v) : Val env (l ++ l') v := ⟨fun st => by rw [rnn_app, h.1, h'.1], h'.2⟩
theorem VaL_nil {env : Int → Int} {v : Int} (h : -2147483648 ≤ v ∧ v ≤ 2147483647) : VaL env [] v v := ⟨fun _ => rfl, h⟩
theorem of2_bd {s a b : Int} : -2147483648 ≤ of2 s a b ∧ of2 s a b ≤ 2147483647 := by
  unfold of2
  have h1 := bw_bd (z := a + b)
  have h2 := bw_bd (z := a - b)
  have h3 := bw_bd (z := a * b)
  repeat' split
  all_goals omega
theorem stp2 {env : Int → Int} {s a b : Int} {st : List Int} (hs : s = -11 ∨ s = -12 ∨ s = -14 ∨ s = -15 ∨ s = -16 ∨ s = -17 ∨ s = -18) : stp env s (b :: a :: st) = of2 s a b :: st := by
  rcases hs with e | e | e | e | e | e | e <;> rw [e] <;> rfl
/-- a step for two in a row of them -/
theorem VaL_step {env : Int → Int} {s v0 v1 v : Int} {l1 l2 : List Int} (hs : s = -11 ∨ s = -12 ∨ s = -14 ∨ s = -15 ∨ s = -16 ∨ s = -17 ∨ s = -18) (h1 : Val env l1 v1) (h2 : VaL env l2 (of2 s v0 v1) v) : VaL env (l1 ++ (s :: l2)) v0 v :=
  ⟨fun st => by
    rw [rnn_app, h1.1]
    show rnn env l2 (stp env s (v1 :: v0 :: st)) = _
    rw [stp2 hs, h2.1], h2.2⟩
theorem Val_step {env : Int → Int} {s v0 v1 : Int} {l0 l1 : List Int} (hs : s = -11 ∨ s = -12 ∨ s = -14 ∨ s = -15 ∨ s = -16 ∨ s = -17 ∨ s = -18) (h0 : Val env l0 v0) (h1 : Val env l1 v1) : Val env (l0 ++ (l1 ++ [s])) (of2 s v0 v1) := Val_app h0 (VaL_step hs h1 (VaL_nil of2_bd))
theorem Val_neg {env : Int → Int} {v : Int} {l : List Int} (h : Val env l v) : Val env (l ++ [-19]) (bw (-v)) := ⟨fun st => by
    rw [rnn_app, h.1]
    rfl, bw_bd⟩
theorem Val_not {env : Int → Int} {v : Int} {l : List Int} (h : Val env l v) : Val env (l ++ [-13]) (if v = 0 then 1 else 0) := ⟨fun st => by
    rw [rnn_app, h.1]
    rfl, by split <;> omega⟩
theorem Val_num {env : Int → Int} {s : Int} (h : 0 ≤ s ∧ s ≤ 2147483647) : Val env [s] s := ⟨fun st => by
    show stp env s st = _
    unfold stp
    rw [if_pos h.1], by omega⟩
theorem Val_nam {env : Int → Int} {i : Int} (h : 0 ≤ i ∧ i ≤ 5) (he : -2147483648 ≤ env i ∧ env i ≤ 2147483647) : Val env [-1 - i] (env i) := ⟨fun st => by
    show stp env (-1 - i) st = _
    unfold stp
    rw [if_neg (by omega), if_pos (by omega), show -1 - (-1 - i) = i by omega], he⟩
