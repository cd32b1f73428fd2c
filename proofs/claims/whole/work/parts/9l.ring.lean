/-! the ring laws of conv -/
def Zn (b : Int → Int) : Prop := ∀ j : Int, j < 0 → b j = 0
theorem csum_swap {F : Int → Int → Int} {m : Nat} : ∀ n : Nat, csum (fun i => csum (fun j => F i j) m) n = csum (fun j => csum (fun i => F i j) n) m
  | 0 => by
    show (0 : Int) = csum (fun j => (0 : Int)) m
    exact (csum_zero (fun _ _ _ => rfl)).symm
  | n + 1 => by
    show csum (fun i => csum (fun j => F i j) m) n + csum (fun j => F (n : Int) j) m = csum (fun j => csum (fun i => F i j) n + F (n : Int) j) m
    rw [csum_swap n, csum_add]
theorem conv_M {a b : Int → Int} {i : Int} {M : Nat} (hb : Zn b) (hM : i < M) : conv a b i = csum (fun j => a j * b (i - j)) M := by
  unfold conv
  exact (csum_more (m := (i + 1).toNat) (n := M) (by omega) (fun j h1 h2 => by
    show a j * b (i - j) = 0
    rw [hb (i - j) (by omega), Int.mul_zero])).symm
theorem conv_comm {a b : Int → Int} {i : Int} (ha : Zn a) (hb : Zn b) : conv a b i = conv b a i := by
  have h1 : ∀ (a b : Int → Int), Zn b → conv a b i = csum (fun j => csum (fun k => if j + k = i then a j * b k else 0) (i + 1).toNat) (i + 1).toNat := fun a b hb => by
    unfold conv
    refine csum_congr (fun j j0 j1 => ?_)
    show a j * b (i - j) = csum (fun k => if j + k = i then a j * b k else 0) (i + 1).toNat
    have e : csum (fun k => if j + k = i then a j * b k else 0) (i + 1).toNat = csum (fun k => if k = i - j then a j * b (i - j) else 0) (i + 1).toNat := csum_congr (fun k _ _ => by
      show (if j + k = i then a j * b k else 0) = (if k = i - j then a j * b (i - j) else 0)
      by_cases c : k = i - j
      · rw [if_pos (by omega), if_pos c, c]
      · rw [if_neg (by omega), if_neg c])
    rw [e, csum_one, if_pos (by omega)]
  rw [h1 a b hb, h1 b a ha, csum_swap]
  refine csum_congr (fun k _ _ => csum_congr (fun j _ _ => ?_))
  show (if j + k = i then a j * b k else 0) = (if k + j = i then b k * a j else 0)
  rw [Int.add_comm j k, Int.mul_comm (a j)]
theorem conv_sh {b c : Int → Int} {i k : Int} (hb : Zn b) (hc : Zn c) (hk : 0 ≤ k) : conv (fun x => b (x - k)) c i = conv b c (i - k) := by
  have hbk : Zn (fun x => b (x - k)) := fun j hj => hb (j - k) (by omega)
  have e1 := conv_M (a := c) (i := i) (M := (i + 1).toNat) hbk (by omega)
  have e2 := conv_M (a := c) (i := i - k) (M := (i + 1).toNat) hb (by omega)
  rw [conv_comm hbk hc, conv_comm hb hc, e1, e2]
  refine csum_congr (fun j _ _ => ?_)
  show c j * b (i - j - k) = c j * b (i - k - j)
  rw [show i - j - k = i - k - j by omega]
theorem conv_zn {a b : Int → Int} : Zn (conv a b) := fun _ hj => conv_neg hj
theorem conv_assoc {a b c : Int → Int} {i : Int} (ha : Zn a) (hb : Zn b) (hc : Zn c) : conv (conv a b) c i = conv a (conv b c) i := by
  have e1 : conv (conv a b) c i = csum (fun j => csum (fun k => a k * b (j - k) * c (i - j)) (i + 1).toNat) (i + 1).toNat := by
    unfold conv
    refine csum_congr (fun j j0 j1 => ?_)
    show csum (fun k => a k * b (j - k)) (j + 1).toNat * c (i - j) = csum (fun k => a k * b (j - k) * c (i - j)) (i + 1).toNat
    have e : csum (fun k => a k * b (j - k)) (j + 1).toNat = csum (fun k => a k * b (j - k)) (i + 1).toNat := (csum_more (by omega) (fun k k0 k1 => by
      show a k * b (j - k) = 0
      rw [hb (j - k) (by omega), Int.mul_zero])).symm
    rw [e, Int.mul_comm, ← csum_mul]
    exact csum_congr (fun k _ _ => Int.mul_comm _ _)
  rw [e1, csum_swap]
  show _ = csum (fun k => a k * conv b c (i - k)) (i + 1).toNat
  refine csum_congr (fun k k0 k1 => ?_)
  show csum (fun j => a k * b (j - k) * c (i - j)) (i + 1).toNat = a k * conv b c (i - k)
  rw [← conv_sh hb hc k0]
  unfold conv
  rw [← csum_mul]
  exact csum_congr (fun j _ _ => Int.mul_assoc _ _ _)
theorem conv_addl {a a' b : Int → Int} {i : Int} : conv (fun j => a j + a' j) b i = conv a b i + conv a' b i := by
  unfold conv
  rw [← csum_add]
  exact csum_congr (fun j _ _ => Int.add_mul _ _ _)
theorem conv_addr {a b b' : Int → Int} {i : Int} : conv a (fun j => b j + b' j) i = conv a b i + conv a b' i := by
  unfold conv
  rw [← csum_add]
  exact csum_congr (fun j _ _ => Int.mul_add _ _ _)
theorem conv_mull {a b : Int → Int} {i f : Int} : conv (fun j => f * a j) b i = f * conv a b i := by
  unfold conv
  rw [← csum_mul]
  exact csum_congr (fun j _ _ => Int.mul_assoc _ _ _)
