/-! makings over a state -/
/-- nothing is there from n on -/
def Fr (S : SS) (n : Nat) : Prop := ∀ a : Nat, n ≤ a → (∀ k : Nat, S.1 a k = 0) ∧ S.2.1 a = (fun _ => 0) ∧ S.2.2 a = (fun _ => none)
theorem Fr_le {S : SS} {m n : Nat} (h : Fr S m) (hn : m ≤ n) : Fr S n := fun a ha => h a (Nat.le_trans hn ha)
theorem Fr_F {S : SS} {n a k : Nat} {v : Int} (h : Fr S n) (ha : a < n) : Fr (setF S a k v) n := fun b hb => ⟨fun j => (if_neg (fun z => absurd z.1 (by omega))).trans ((h b hb).1 j), (h b hb).2.1, (h b hb).2.2⟩
theorem Fr_P {S : SS} {n a : Nat} {k : Int} {v : Option Nat} (h : Fr S n) (ha : a < n) : Fr (setP S a k v) n := fun b hb => ⟨(h b hb).1, (h b hb).2.1, by
  funext j
  exact (if_neg (fun z => absurd z.1 (by omega))).trans (congrFun (h b hb).2.2 j)⟩
theorem Fr_A {S : SS} {n a : Nat} {i v : Int} (h : Fr S n) (ha : a < n) : Fr (setA S a i v) n := fun b hb => ⟨(h b hb).1, (if_neg (fun z => absurd z (by omega))).trans (h b hb).2.1, (h b hb).2.2⟩
def dvl (kd : Nat) : Value := match kd with
  | 0 => .int (iI 0)
  | 1 => .long (iL 0)
  | _ => va_rf none
theorem fvs_fr {g : GC} {S : SS} {ci n : Nat} (h : Fr S n) : fvs g S ci n = (kds ci).map dvl := by
  unfold fvs
  apply List.ext_getElem?
  intro k
  rw [List.getElem?_mapIdx, List.getElem?_map]
  cases (kds ci)[k]? with
  | none => rfl
  | some z =>
    show some (fval g S n k z) = some (dvl z)
    match z with
    | 0 => show some (Value.int (iI (S.1 n k))) = _; rw [(h n (Nat.le_refl _)).1]; rfl
    | 1 => show some (Value.long (iL (S.1 n k))) = _; rw [(h n (Nat.le_refl _)).1]; rfl
    | z + 2 => show some (va_rf ((S.2.2 n (k : Int)).map _)) = _; rw [(h n (Nat.le_refl _)).2.2]; rfl
theorem nf_X0 {g : GC} {S : SS} {n : Nat} (h : Fr S n) : ∀ j, j < 9 → defaultValue (tyX0 j) = vp_V (fvs g S 0 n) j := by
  rw [fvs_fr h]
  intro j hj
  match j, hj with
  | 0, _ => rfl
  | 1, _ => rfl
  | 2, _ => rfl
  | 3, _ => rfl
  | 4, _ => rfl
  | 5, _ => rfl
  | 6, _ => rfl
  | 7, _ => rfl
  | 8, _ => rfl
  | m + 9, hj => exact absurd hj (by omega)
theorem nf_X1 {g : GC} {S : SS} {n : Nat} (h : Fr S n) : ∀ j, j < 5 → defaultValue (tyX1 j) = vp_V (fvs g S 1 n) j := by
  rw [fvs_fr h]
  intro j hj
  match j, hj with
  | 0, _ => rfl
  | 1, _ => rfl
  | 2, _ => rfl
  | 3, _ => rfl
  | 4, _ => rfl
  | m + 5, hj => exact absurd hj (by omega)
theorem nf_X2 {g : GC} {S : SS} {n : Nat} (h : Fr S n) : ∀ j, j < 10 → defaultValue (tyX2 j) = vp_V (fvs g S 2 n) j := by
  rw [fvs_fr h]
  intro j hj
  match j, hj with
  | 0, _ => rfl
  | 1, _ => rfl
  | 2, _ => rfl
  | 3, _ => rfl
  | 4, _ => rfl
  | 5, _ => rfl
  | 6, _ => rfl
  | 7, _ => rfl
  | 8, _ => rfl
  | 9, _ => rfl
  | m + 10, hj => exact absurd hj (by omega)
theorem nf_X3 {g : GC} {S : SS} {n : Nat} (h : Fr S n) : ∀ j, j < 1 → defaultValue (tyX3 j) = vp_V (fvs g S 3 n) j := by
  rw [fvs_fr h]
  intro j hj
  match j, hj with
  | 0, _ => rfl
  | m + 1, hj => exact absurd hj (by omega)
theorem nf_X4 {g : GC} {S : SS} {n : Nat} (h : Fr S n) : ∀ j, j < 2 → defaultValue (tyX4 j) = vp_V (fvs g S 4 n) j := by
  rw [fvs_fr h]
  intro j hj
  match j, hj with
  | 0, _ => rfl
  | 1, _ => rfl
  | m + 2, hj => exact absurd hj (by omega)
theorem nf_X5 {g : GC} {S : SS} {n : Nat} (h : Fr S n) : ∀ j, j < 3 → defaultValue (tyX5 j) = vp_V (fvs g S 5 n) j := by
  rw [fvs_fr h]
  intro j hj
  match j, hj with
  | 0, _ => rfl
  | 1, _ => rfl
  | 2, _ => rfl
  | m + 3, hj => exact absurd hj (by omega)
theorem nf_X6 {g : GC} {S : SS} {n : Nat} (h : Fr S n) : ∀ j, j < 6 → defaultValue (tyX6 j) = vp_V (fvs g S 6 n) j := by
  rw [fvs_fr h]
  intro j hj
  match j, hj with
  | 0, _ => rfl
  | 1, _ => rfl
  | 2, _ => rfl
  | 3, _ => rfl
  | 4, _ => rfl
  | 5, _ => rfl
  | m + 6, hj => exact absurd hj (by omega)
theorem nf_X7 {g : GC} {S : SS} {n : Nat} (h : Fr S n) : ∀ j, j < 6 → defaultValue (tyX7 j) = vp_V (fvs g S 7 n) j := by
  rw [fvs_fr h]
  intro j hj
  match j, hj with
  | 0, _ => rfl
  | 1, _ => rfl
  | 2, _ => rfl
  | 3, _ => rfl
  | 4, _ => rfl
  | 5, _ => rfl
  | m + 6, hj => exact absurd hj (by omega)
theorem nf_X8 {g : GC} {S : SS} {n : Nat} (h : Fr S n) : ∀ j, j < 3 → defaultValue (tyX8 j) = vp_V (fvs g S 8 n) j := by
  rw [fvs_fr h]
  intro j hj
  match j, hj with
  | 0, _ => rfl
  | 1, _ => rfl
  | 2, _ => rfl
  | m + 3, hj => exact absurd hj (by omega)
theorem nf_X9 {g : GC} {S : SS} {n : Nat} (h : Fr S n) : ∀ j, j < 15 → defaultValue (tyX9 j) = vp_V (fvs g S 9 n) j := by
  rw [fvs_fr h]
  intro j hj
  match j, hj with
  | 0, _ => rfl
  | 1, _ => rfl
  | 2, _ => rfl
  | 3, _ => rfl
  | 4, _ => rfl
  | 5, _ => rfl
  | 6, _ => rfl
  | 7, _ => rfl
  | 8, _ => rfl
  | 9, _ => rfl
  | 10, _ => rfl
  | 11, _ => rfl
  | 12, _ => rfl
  | 13, _ => rfl
  | 14, _ => rfl
  | m + 15, hj => exact absurd hj (by omega)
theorem nf_X10 {g : GC} {S : SS} {n : Nat} (h : Fr S n) : ∀ j, j < 39 → defaultValue (tyX10 j) = vp_V (fvs g S 10 n) j := by
  rw [fvs_fr h]
  intro j hj
  match j, hj with
  | 0, _ => rfl
  | 1, _ => rfl
  | 2, _ => rfl
  | 3, _ => rfl
  | 4, _ => rfl
  | 5, _ => rfl
  | 6, _ => rfl
  | 7, _ => rfl
  | 8, _ => rfl
  | 9, _ => rfl
  | 10, _ => rfl
  | 11, _ => rfl
  | 12, _ => rfl
  | 13, _ => rfl
  | 14, _ => rfl
  | 15, _ => rfl
  | 16, _ => rfl
  | 17, _ => rfl
  | 18, _ => rfl
  | 19, _ => rfl
  | 20, _ => rfl
  | 21, _ => rfl
  | 22, _ => rfl
  | 23, _ => rfl
  | 24, _ => rfl
  | 25, _ => rfl
  | 26, _ => rfl
  | 27, _ => rfl
  | 28, _ => rfl
  | 29, _ => rfl
  | 30, _ => rfl
  | 31, _ => rfl
  | 32, _ => rfl
  | 33, _ => rfl
  | 34, _ => rfl
  | 35, _ => rfl
  | 36, _ => rfl
  | 37, _ => rfl
  | 38, _ => rfl
  | m + 39, hj => exact absurd hj (by omega)
theorem sup_at {sh : SH} {a : Nat} {s : Nat ⊕ (Nat × Nat)} : sup sh a s a = some s := if_pos rfl
theorem sup_ne {sh : SH} {a b : Nat} {s : Nat ⊕ (Nat × Nat)} (h : b ≠ a) : sup sh a s b = sh b := if_neg h
section MROWS
variable {g : GC} {y : GM} {d mc ms pc : Nat} {ls : List (Nat × Value)} {st : List Value} {sh : SH} {S : SS} {n k u : Nat} {Q : Option Value → GA → Nat → Prop}
theorem S_new {ci ix N : Nat} {C : String} {T : u_T} {ty : Nat → FieldType} (hd : decode y.2.1 pc = .ok (.new ix, 3)) (hG : GCls ci C T N ty) (hcl : Cond.classLink y.1.cls ix C ∈ W0) (hin : Cond.instantiable C N ∈ W0) (hini : Cond.initialized C ∈ W0) (hfs : ∀ j, j < N → defaultValue (ty j) = vp_V (fvs g S ci n) j) (hcs : k + 1 ≤ mc ∧ u + N ≤ ms)
    (kk : G g y d mc ms (pc + 3) ls (gr g n :: st) (hp g (sup sh n (.inl ci)) S) (n + 1) (k + 1) (u + N) Q) : G g y d mc ms pc ls st (hp g sh S) n k u Q :=
  G_new hd hG hcl hin hini hfs hcs (by rw [hp_new (s := .inl ci) (e := gO ci (fvs g S ci n)) rfl]; exact kk)
theorem S_newI {a : Int} {N : Nat} (hd : decode y.2.1 pc = .ok (.newarray .int, 2)) (harr : Cond.arrayClass .int ∈ W0) (ha : a = N) (hN : N ≤ 100000) (hcs : k + 1 ≤ mc ∧ u + N ≤ ms) (hF : Fr S n)
    (kk : G g y d mc ms (pc + 2) ls (gr g n :: st) (hp g (sup sh n (.inr (1, N))) S) (n + 1) (k + 1) (u + N) Q) : G g y d mc ms pc ls (.int (iI a) :: st) (hp g sh S) n k u Q :=
  G_newI hd harr ha hN hcs (by rw [hp_new (s := .inr (1, N)) (show gI g 1 N (S.2.1 n) = _ by rw [(hF n (Nat.le_refl _)).2.1])]; exact kk)
theorem S_newB {a : Int} {N : Nat} (hd : decode y.2.1 pc = .ok (.newarray .byte, 2)) (harr : Cond.arrayClass .byte ∈ W0) (ha : a = N) (hN : N ≤ 100000) (hcs : k + 1 ≤ mc ∧ u + N ≤ ms) (hF : Fr S n)
    (kk : G g y d mc ms (pc + 2) ls (gr g n :: st) (hp g (sup sh n (.inr (0, N))) S) (n + 1) (k + 1) (u + N) Q) : G g y d mc ms pc ls (.int (iI a) :: st) (hp g sh S) n k u Q :=
  G_newB hd harr ha hN hcs (by rw [hp_new (s := .inr (0, N)) (show gI g 0 N (S.2.1 n) = _ by rw [(hF n (Nat.le_refl _)).2.1])]; exact kk)
theorem S_newZ {a : Int} {N : Nat} (hd : decode y.2.1 pc = .ok (.newarray .boolean, 2)) (harr : Cond.arrayClass .boolean ∈ W0) (ha : a = N) (hN : N ≤ 100000) (hcs : k + 1 ≤ mc ∧ u + N ≤ ms) (hF : Fr S n)
    (kk : G g y d mc ms (pc + 2) ls (gr g n :: st) (hp g (sup sh n (.inr (3, N))) S) (n + 1) (k + 1) (u + N) Q) : G g y d mc ms pc ls (.int (iI a) :: st) (hp g sh S) n k u Q :=
  G_newZ hd harr ha hN hcs (by rw [hp_new (s := .inr (3, N)) (show gI g 3 N (S.2.1 n) = _ by rw [(hF n (Nat.le_refl _)).2.1])]; exact kk)
theorem S_newJ {a : Int} {N : Nat} (hd : decode y.2.1 pc = .ok (.newarray .long, 2)) (harr : Cond.arrayClass .long ∈ W0) (ha : a = N) (hN : N ≤ 100000) (hcs : k + 1 ≤ mc ∧ u + N ≤ ms) (hF : Fr S n)
    (kk : G g y d mc ms (pc + 2) ls (gr g n :: st) (hp g (sup sh n (.inr (2, N))) S) (n + 1) (k + 1) (u + N) Q) : G g y d mc ms pc ls (.int (iI a) :: st) (hp g sh S) n k u Q :=
  G_newJ hd harr ha hN hcs (by rw [hp_new (s := .inr (2, N)) (show gJ g N (S.2.1 n) = _ by rw [(hF n (Nat.le_refl _)).2.1])]; exact kk)
theorem S_newR {a : Int} {ix N t : Nat} {C : String} (hd : decode y.2.1 pc = .ok (.anewarray ix, 3)) (hcl : Cond.classLink y.1.cls ix C ∈ W0) (ho : C ∈ gOver) (ht : (gtys g)[t + 4]? = some (gY g (t + 4), .object C)) (ha : a = N) (hN : N ≤ 100000) (hcs : k + 1 ≤ mc ∧ u + N ≤ ms) (hF : Fr S n)
    (kk : G g y d mc ms (pc + 3) ls (gr g n :: st) (hp g (sup sh n (.inr (t + 4, N))) S) (n + 1) (k + 1) (u + N) Q) : G g y d mc ms pc ls (.int (iI a) :: st) (hp g sh S) n k u Q :=
  G_newR hd hcl ho ht ha hN hcs (by rw [hp_new (s := .inr (t + 4, N)) (show gR g (t + 4) N (S.2.2 n) = _ by rw [(hF n (Nat.le_refl _)).2.2])]; exact kk)
theorem G_ixor {h : GA} {a b v : Int32} (hd : decode y.2.1 pc = .ok (.ixor, 1)) (hv : a ^^^ b = v)
    (kk : G g y d mc ms (pc + 1) ls (.int v :: st) h n k u Q) : G g y d mc ms pc ls (.int b :: .int a :: st) h n k u Q := by
  intro p e s m args below meth c H locs la X hR hL hl
  subst hv; exact lv_ixor X.1 X.2.1 hd (kk p e s m args below meth c H locs la X hR hL hl)
end MROWS
theorem xor4 {x : Int} (hx : -2147483648 ≤ x ∧ x ≤ 2147483647) : ∃ z : Int, iI x ^^^ iI 4 = iI z ∧ (-2147483648 ≤ z ∧ z ≤ 2147483647) ∧ (0 ≤ z ↔ 0 ≤ x) := by
  refine ⟨(iI x ^^^ iI 4).toInt, (iI_of _).symm, ⟨Int32.le_toInt _, by have := Int32.toInt_lt (iI x ^^^ iI 4); omega⟩, ?_⟩
  have h1 : ∀ a : Int32, 0 ≤ a.toInt ↔ a.toBitVec.msb = false := fun a => by
    have := BitVec.msb_eq_toInt (x := a.toBitVec)
    show 0 ≤ a.toBitVec.toInt ↔ _
    rw [this]
    by_cases c : a.toBitVec.toInt < 0
    · rw [decide_eq_true c]; constructor
      · intro z; omega
      · intro z; cases z
    · rw [decide_eq_false c]; constructor
      · intro _; rfl
      · intro _; omega
  have e : 0 ≤ x ↔ 0 ≤ (iI x).toInt := by rw [iI_toInt hx]
  rw [e, h1, h1, Int32.toBitVec_xor, BitVec.msb_xor]
  have e4 : (iI 4).toBitVec.msb = false := by decide
  rw [e4, Bool.xor_false]
set_option maxRecDepth 100000 in
set_option maxHeartbeats 4000000 in
theorem c_J9_floorMod {g : GC} {h : GA} {n : Nat} {x : Int} {Q : Option Value → GA → Nat → Prop} (hx : -2147483648 ≤ x ∧ x ≤ 2147483647) (hq : Q (some (.int (iI (x % 4)))) h n) : GCall g mJ9_floorMod_7cf53 1 0 0 [.int (iI x), .int (iI 4)] h n Q := by
  obtain ⟨z, z1, z2, z3⟩ := xor4 hx
  have ht : (0 ≤ x → Int.tmod x 4 = x % 4) ∧ (¬ 0 ≤ x → Int.tmod x 4 = -((-x) % 4)) := by
    refine ⟨fun c => Int.tmod_eq_emod_of_nonneg c, fun c => ?_⟩
    have e : Int.tmod x 4 = -(Int.tmod (-x) 4) := by rw [Int.neg_tmod, Int.neg_neg]
    rw [e, Int.tmod_eq_emod_of_nonneg (by omega)]
  refine GCall_ofF (by decide +kernel) (Nat.le_of_ble_eq_true rfl) (ls := [(0, _), (1, _)]) rfl ?_
  refine G_iload_n (pc := 0) dJ9_floorMod_7cf53_0 rfl ?_
  refine G_iload_n (pc := 1) dJ9_floorMod_7cf53_1 rfl ?_
  refine G_irem (pc := 2) dJ9_floorMod_7cf53_2 (by omega) ?_
  refine G_istore_n (pc := 3) (ls' := [(2, _), (0, _), (1, _)]) dJ9_floorMod_7cf53_3 (by decide) rfl ?_
  generalize Int.tmod x 4 = t at ht ⊢
  refine G_iload_n (pc := 4) dJ9_floorMod_7cf53_4 rfl ?_
  refine G_iload_n (pc := 5) dJ9_floorMod_7cf53_5 rfl ?_
  refine G_ixor (pc := 6) dJ9_floorMod_7cf53_6 z1 ?_
  refine G_if_ge (pc := 7) 18 dJ9_floorMod_7cf53_7 rfl (by omega) (fun c7 => ?_) (fun c7 => ?_)
  · skip
    refine G_iload_n (pc := 18) dJ9_floorMod_7cf53_18 rfl ?_
    refine G_iret (pc := 19) dJ9_floorMod_7cf53_19 rfl (by decide) ?_
    first | (rw [show t = x % 4 by omega]; exact hq) | (rw [show t + 4 = x % 4 by omega]; exact hq)
  · skip
    refine G_iload_n (pc := 10) dJ9_floorMod_7cf53_10 rfl ?_
    refine G_if_eq (pc := 11) 18 dJ9_floorMod_7cf53_11 rfl (by omega) (fun c11 => ?_) (fun c11 => ?_)
    · skip
      refine G_iload_n (pc := 18) dJ9_floorMod_7cf53_18 rfl ?_
      refine G_iret (pc := 19) dJ9_floorMod_7cf53_19 rfl (by decide) ?_
      first | (rw [show t = x % 4 by omega]; exact hq) | (rw [show t + 4 = x % 4 by omega]; exact hq)
    · skip
      refine G_iload_n (pc := 14) dJ9_floorMod_7cf53_14 rfl ?_
      refine G_iload_n (pc := 15) dJ9_floorMod_7cf53_15 rfl ?_
      refine G_iadd (pc := 16) dJ9_floorMod_7cf53_16 ?_
      refine G_iret (pc := 17) dJ9_floorMod_7cf53_17 rfl (by decide) ?_
      first | (rw [show t = x % 4 by omega]; exact hq) | (rw [show t + 4 = x % 4 by omega]; exact hq)
def prm (x : Int) : Int := if x % 4 = 0 then 97 else if x % 4 = 1 then 193 else if x % 4 = 2 then 257 else 7681
theorem prm_is (x : Int) : IsP (prm x) := by
  unfold prm IsP
  repeat' split
  all_goals omega
set_option maxRecDepth 100000 in
set_option maxHeartbeats 4000000 in
theorem c_X3_primeOf {g : GC} {h : GA} {n : Nat} {x : Int} {Q : Option Value → GA → Nat → Prop} (hx : -2147483648 ≤ x ∧ x ≤ 2147483647) (hq : Q (some (.int (iI (prm x)))) h n) : GCall g mX3_primeOf 2 0 0 [.int (iI x)] h n Q := by
  refine GCall.of (by decide) (Nat.le_of_ble_eq_true rfl) (ls := [(0, _)]) rfl ?_
  have hc : x % 4 = 0 ∨ x % 4 = 1 ∨ x % 4 = 2 ∨ x % 4 = 3 := by omega
  rcases hc with e | e | e | e
  · have ev : prm x = 97 := if_pos e
    rw [ev] at hq
    refine G_iload_n (pc := 0) dX3_primeOf_0 rfl ?_
    refine G_iconst (pc := 1) dX3_primeOf_1 ?_
    refine G_callS (pc := 2) (d2 := 1) (mc2 := 0) (ms2 := 0) (As := [_, _]) dX3_primeOf_2 kJ9_floorMod_7cf53 lkX3_17 rfl rfl (Nat.le_of_ble_eq_true rfl) ⟨by decide, by decide⟩ (by decide) ?_
    refine c_J9_floorMod hx ?_
    rw [e]
    show G _ _ _ _ _ _ _ _ _ _ _ _ _
    refine G_tin (pc := 5) 0 32 dX3_primeOf_5 (by omega) (by omega) (by omega) rfl (by decide) ?_
    · skip
      skip
      refine G_bipush (pc := 32) dX3_primeOf_32 rfl ?_
      refine G_iret (pc := 34) dX3_primeOf_34 rfl (by decide) ?_
      exact hq
  · have ev : prm x = 193 := (if_neg (by omega)).trans (if_pos e)
    rw [ev] at hq
    refine G_iload_n (pc := 0) dX3_primeOf_0 rfl ?_
    refine G_iconst (pc := 1) dX3_primeOf_1 ?_
    refine G_callS (pc := 2) (d2 := 1) (mc2 := 0) (ms2 := 0) (As := [_, _]) dX3_primeOf_2 kJ9_floorMod_7cf53 lkX3_17 rfl rfl (Nat.le_of_ble_eq_true rfl) ⟨by decide, by decide⟩ (by decide) ?_
    refine c_J9_floorMod hx ?_
    rw [e]
    show G _ _ _ _ _ _ _ _ _ _ _ _ _
    refine G_tin (pc := 5) 1 35 dX3_primeOf_5 (by omega) (by omega) (by omega) rfl (by decide) ?_
    · skip
      skip
      refine G_sipush (pc := 35) dX3_primeOf_35 rfl ?_
      refine G_iret (pc := 38) dX3_primeOf_38 rfl (by decide) ?_
      exact hq
  · have ev : prm x = 257 := (if_neg (by omega)).trans ((if_neg (by omega)).trans (if_pos e))
    rw [ev] at hq
    refine G_iload_n (pc := 0) dX3_primeOf_0 rfl ?_
    refine G_iconst (pc := 1) dX3_primeOf_1 ?_
    refine G_callS (pc := 2) (d2 := 1) (mc2 := 0) (ms2 := 0) (As := [_, _]) dX3_primeOf_2 kJ9_floorMod_7cf53 lkX3_17 rfl rfl (Nat.le_of_ble_eq_true rfl) ⟨by decide, by decide⟩ (by decide) ?_
    refine c_J9_floorMod hx ?_
    rw [e]
    show G _ _ _ _ _ _ _ _ _ _ _ _ _
    refine G_tin (pc := 5) 2 39 dX3_primeOf_5 (by omega) (by omega) (by omega) rfl (by decide) ?_
    · skip
      skip
      refine G_sipush (pc := 39) dX3_primeOf_39 rfl ?_
      refine G_iret (pc := 42) dX3_primeOf_42 rfl (by decide) ?_
      exact hq
  · have ev : prm x = 7681 := (if_neg (by omega)).trans ((if_neg (by omega)).trans (if_neg (by omega)))
    rw [ev] at hq
    refine G_iload_n (pc := 0) dX3_primeOf_0 rfl ?_
    refine G_iconst (pc := 1) dX3_primeOf_1 ?_
    refine G_callS (pc := 2) (d2 := 1) (mc2 := 0) (ms2 := 0) (As := [_, _]) dX3_primeOf_2 kJ9_floorMod_7cf53 lkX3_17 rfl rfl (Nat.le_of_ble_eq_true rfl) ⟨by decide, by decide⟩ (by decide) ?_
    refine c_J9_floorMod hx ?_
    rw [e]
    show G _ _ _ _ _ _ _ _ _ _ _ _ _
    refine G_tout (pc := 5) 43 dX3_primeOf_5 (by omega) (by omega) (by decide) ?_
    · skip
      skip
      refine G_sipush (pc := 43) dX3_primeOf_43 rfl ?_
      refine G_iret (pc := 46) dX3_primeOf_46 rfl (by decide) ?_
      exact hq
set_option maxRecDepth 100000 in
set_option maxHeartbeats 4000000 in
theorem c_X4_init {g : GC} {sh : SH} {S : SS} {a n N : Nat} {Q : Option Value → GA → Nat → Prop} (hs : sh a = some (.inl 4)) (han : a < n) (hF : Fr S n) (hN : N ≤ 100000) (hq : Q none (hp g (sup sh n (.inr (1, N))) (setP S a 0 (some n))) (n + 1)) : GCall g mX4_init 2 1 N [gr g a, .int (iI N)] (hp g sh S) n Q := by
  have hs1 : sup sh n (.inr (1, N)) a = some (.inl 4) := (sup_ne (by omega)).trans hs
  refine GCall.of (by decide) (Nat.le_of_ble_eq_true rfl) (ls := [(0, _), (1, _)]) rfl ?_
  refine S_aload_n (pc := 0) dX4_init_0 rfl ?_
  refine G_objInit (pc := 1) dX4_init_1 lkX4_1 oi_in oi_co rfl (Nat.le_of_ble_eq_true rfl) (by decide) ?_
  refine S_aload_n (pc := 4) dX4_init_4 rfl ?_
  refine G_iload_n (pc := 5) dX4_init_5 rfl ?_
  refine G_iconst (pc := 6) dX4_init_6 ?_
  refine G_callS (pc := 7) (d2 := 1) (mc2 := 0) (ms2 := 0) (As := [_, _]) dX4_init_7 kJ9_max_7cf53 lkX4_7 rfl rfl (Nat.le_of_ble_eq_true rfl) ⟨by decide, by decide⟩ (by(omega)) ?_
  refine c_J9_max (by omega) ?_
  rw [if_pos (show (0 : Int) ≤ (N : Int) by omega)]
  show G _ _ _ _ _ _ _ _ _ _ _ _ _
  refine S_newI (pc := 10) (N := N) dX4_init_10 ar_int rfl (by omega) (by(omega)) hF ?_
  refine S_putRF (pc := 12) dX4_init_12 fX4_13 rfl (by assumption) rfl ⟨rfl, rfl⟩ ?_
  refine G_vret (pc := 15) dX4_init_15 rfl (by(omega)) ?_
  exact hq
set_option maxRecDepth 100000 in
set_option maxHeartbeats 4000000 in
theorem c_X5_init {g : GC} {sh : SH} {S : SS} {a n : Nat} {Q : Option Value → GA → Nat → Prop} (hs : sh a = some (.inl 5)) (han : a < n) (hF : Fr S n) (hq : Q none (hp g (sup sh n (.inr (1, 40))) (setP (setF S a 0 (-1)) a 2 (some n))) (n + 1)) : GCall g mX5_init 1 1 40 [gr g a] (hp g sh S) n Q := by
  have hs1 : sup sh n (.inr (1, 40)) a = some (.inl 5) := (sup_ne (by omega)).trans hs
  have hF1 : Fr (setF S a 0 (-1)) n := Fr_F hF han
  refine GCall.of (by decide) (Nat.le_of_ble_eq_true rfl) (ls := [(0, _)]) rfl ?_
  refine S_aload_n (pc := 0) dX5_init_0 rfl ?_
  refine G_objInit (pc := 1) dX5_init_1 lkX5_3 oi_in oi_co rfl (Nat.le_of_ble_eq_true rfl) (by decide) ?_
  refine S_aload_n (pc := 4) dX5_init_4 rfl ?_
  refine G_iconst (pc := 5) dX5_init_5 ?_
  refine S_putI (pc := 6) dX5_init_6 fX5_11 (by assumption) rfl ⟨rfl, rfl⟩ ?_
  refine S_aload_n (pc := 9) dX5_init_9 rfl ?_
  refine G_bipush (pc := 10) dX5_init_10 rfl ?_
  refine S_newI (pc := 12) (N := 40) dX5_init_12 ar_int rfl (by omega) (by decide) hF1 ?_
  refine S_putRF (pc := 14) dX5_init_14 fX5_15 rfl (by assumption) rfl ⟨rfl, rfl⟩ ?_
  refine G_vret (pc := 17) dX5_init_17 rfl (by decide) ?_
  exact hq
set_option maxRecDepth 100000 in
set_option maxHeartbeats 4000000 in
theorem c_X7_init {g : GC} {sh : SH} {S : SS} {a n : Nat} {Q : Option Value → GA → Nat → Prop} (hs : sh a = some (.inl 7)) (han : a < n) (hF : Fr S n) (hq : Q none (hp g (sup (sup (sup sh n (.inr (1, 160))) (n + 1) (.inr (1, 3))) (n + 2) (.inr (1, 160))) (setP (setP (setP S a 0 (some n)) a 2 (some (n + 1))) a 4 (some (n + 2)))) (n + 3)) : GCall g mX7_init 1 3 323 [gr g a] (hp g sh S) n Q := by
  have hs1 : sup sh n (.inr (1, 160)) a = some (.inl 7) := (sup_ne (by omega)).trans hs
  have hs2 : sup (sup sh n (.inr (1, 160))) (n + 1) (.inr (1, 3)) a = some (.inl 7) := (sup_ne (by omega)).trans hs1
  have hs3 : sup (sup (sup sh n (.inr (1, 160))) (n + 1) (.inr (1, 3))) (n + 2) (.inr (1, 160)) a = some (.inl 7) := (sup_ne (by omega)).trans hs2
  refine GCall.of (by decide) (Nat.le_of_ble_eq_true rfl) (ls := [(0, _)]) rfl ?_
  refine S_aload_n (pc := 0) dX7_init_0 rfl ?_
  refine G_objInit (pc := 1) dX7_init_1 lkX7_3 oi_in oi_co rfl (Nat.le_of_ble_eq_true rfl) (by decide) ?_
  refine S_aload_n (pc := 4) dX7_init_4 rfl ?_
  refine G_sipush (pc := 5) dX7_init_5 rfl ?_
  refine S_newI (pc := 8) (N := 160) dX7_init_8 ar_int rfl (by omega) (by decide) hF ?_
  refine S_putRF (pc := 10) dX7_init_10 fX7_9 rfl (by assumption) rfl ⟨rfl, rfl⟩ ?_
  refine S_aload_n (pc := 13) dX7_init_13 rfl ?_
  refine G_iconst (pc := 14) dX7_init_14 ?_
  refine S_newI (pc := 15) (N := 3) dX7_init_15 ar_int rfl (by omega) (by decide) (Fr_P (Fr_le hF (by omega)) (by omega)) ?_
  refine S_putRF (pc := 17) dX7_init_17 fX7_15 rfl (by assumption) rfl ⟨rfl, rfl⟩ ?_
  refine S_aload_n (pc := 20) dX7_init_20 rfl ?_
  refine G_sipush (pc := 21) dX7_init_21 rfl ?_
  refine S_newI (pc := 24) (N := 160) dX7_init_24 ar_int rfl (by omega) (by decide) (Fr_P (Fr_P (Fr_le hF (by omega)) (by omega)) (by omega)) ?_
  refine S_putRF (pc := 26) dX7_init_26 fX7_18 rfl (by assumption) rfl ⟨rfl, rfl⟩ ?_
  refine G_vret (pc := 29) dX7_init_29 rfl (by decide) ?_
  exact hq
set_option maxRecDepth 100000 in
set_option maxHeartbeats 4000000 in
theorem c_X3_init {g : GC} {sh : SH} {S : SS} {n a : Nat} {x : Int} {Q : Option Value → GA → Nat → Prop} (hs : sh a = some (.inl 3)) (hx : -2147483648 ≤ x ∧ x ≤ 2147483647) (hq : Q none (hp g sh (setF S a 0 (prm x))) n) : GCall g mX3_init 3 0 0 [gr g a, .int (iI x)] (hp g sh S) n Q := by
  refine GCall.of (by decide) (Nat.le_of_ble_eq_true rfl) (ls := [(0, _), (1, _)]) rfl ?_
  refine S_aload_n (pc := 0) dX3_init_0 rfl ?_
  refine G_objInit (pc := 1) dX3_init_1 lkX3_1 oi_in oi_co rfl (Nat.le_of_ble_eq_true rfl) (by decide) ?_
  refine S_aload_n (pc := 4) dX3_init_4 rfl ?_
  refine G_iload_n (pc := 5) dX3_init_5 rfl ?_
  refine G_callS (pc := 6) (d2 := 2) (mc2 := 0) (ms2 := 0) (As := [_]) dX3_init_6 kX3_primeOf lkX3_7 rfl rfl (Nat.le_of_ble_eq_true rfl) ⟨by decide, by decide⟩ (by decide) ?_
  refine c_X3_primeOf hx ?_
  show G _ _ _ _ _ _ _ _ _ _ _ _ _
  refine S_putIF (pc := 9) dX3_init_9 fX3_13 rfl (by assumption) rfl ⟨rfl, rfl⟩ ?_
  refine G_vret (pc := 12) dX3_init_12 rfl (by decide) ?_
  exact hq
