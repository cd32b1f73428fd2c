/-! the greater constructors: what lies where is a table -/
def T9 : List (Nat ⊕ (Nat × Nat)) := [.inl 9, .inr (4, 8), .inl 4, .inr (1, 64), .inr (7, 8), .inl 6, .inr (0, 160), .inr (1, 160), .inr (1, 160), .inr (6, 6), .inr (1, 6), .inr (5, 4), .inl 3, .inl 0, .inl 4, .inr (1, 64), .inl 4, .inr (1, 64), .inl 4, .inr (1, 64), .inl 4, .inr (1, 2), .inl 4, .inr (1, 64), .inl 4, .inr (1, 64), .inl 4, .inr (1, 64), .inl 4, .inr (1, 64), .inl 2, .inr (1, 16), .inr (1, 16), .inl 4, .inr (1, 64), .inl 4, .inr (1, 64), .inl 4, .inr (1, 64), .inl 4, .inr (1, 64), .inl 4, .inr (1, 64), .inl 1, .inl 7, .inr (1, 160), .inr (1, 3), .inr (1, 160), .inl 4, .inr (1, 32), .inl 4, .inr (1, 32), .inl 4, .inr (1, 32), .inl 4, .inr (1, 32), .inl 4, .inr (1, 32), .inl 4, .inr (1, 32), .inl 4, .inr (1, 32), .inl 4, .inr (1, 32), .inl 5, .inr (1, 40), .inl 5, .inr (1, 40), .inl 5, .inr (1, 40), .inl 5, .inr (1, 40), .inl 7, .inr (1, 160), .inr (1, 3), .inr (1, 160), .inl 7, .inr (1, 160), .inr (1, 3), .inr (1, 160), .inl 7, .inr (1, 160), .inr (1, 3), .inr (1, 160), .inl 7, .inr (1, 160), .inr (1, 3), .inr (1, 160), .inl 7, .inr (1, 160), .inr (1, 3), .inr (1, 160), .inl 7, .inr (1, 160), .inr (1, 3), .inr (1, 160), .inl 10, .inr (1, 1280), .inr (1, 8), .inr (1, 8), .inr (2, 33), .inr (2, 33), .inr (1, 960), .inr (1, 6), .inr (1, 160), .inr (1, 16), .inr (1, 16), .inr (1, 272), .inr (1, 16), .inr (3, 4), .inr (1, 4), .inr (1, 4), .inr (1, 160)]
def shT (n : Nat) : SH := fun a => if a < n then T9[a]? else none
theorem shT_at {n a : Nat} {s : Nat ⊕ (Nat × Nat)} (h : a < n) (e : T9[a]? = some s) : shT n a = some s := (if_pos h).trans e
theorem shT_s {n : Nat} {s : Nat ⊕ (Nat × Nat)} (e : T9[n]? = some s) : sup (shT n) n s = shT (n + 1) := by
  funext a
  unfold sup shT
  by_cases c : a = n
  · rw [if_pos c, c, if_pos (Nat.lt_succ_self n), e]
  · rw [if_neg c]
    by_cases d : a < n
    · rw [if_pos d, if_pos (by omega)]
    · rw [if_neg d, if_neg (by omega)]
section TROWS
variable {g : GC} {y : GM} {d mc ms pc : Nat} {ls : List (Nat × Value)} {st : List Value} {S : SS} {n k u : Nat} {Q : Option Value → GA → Nat → Prop}
theorem T_new {ci ix N : Nat} {C : String} {T : u_T} {ty : Nat → FieldType} (hd : decode y.2.1 pc = .ok (.new ix, 3)) (hG : GCls ci C T N ty) (hcl : Cond.classLink y.1.cls ix C ∈ W0) (hin : Cond.instantiable C N ∈ W0) (hini : Cond.initialized C ∈ W0) (hfs : ∀ j, j < N → defaultValue (ty j) = vp_V (fvs g S ci n) j) (hcs : k + 1 ≤ mc ∧ u + N ≤ ms) (ht : T9[n]? = some (.inl ci))
    (kk : G g y d mc ms (pc + 3) ls (gr g n :: st) (hp g (shT (n + 1)) S) (n + 1) (k + 1) (u + N) Q) : G g y d mc ms pc ls st (hp g (shT n) S) n k u Q :=
  S_new hd hG hcl hin hini hfs hcs (by rw [shT_s ht]; exact kk)
theorem T_newI {a : Int} {N : Nat} (hd : decode y.2.1 pc = .ok (.newarray .int, 2)) (harr : Cond.arrayClass .int ∈ W0) (ha : a = N) (hN : N ≤ 100000) (hcs : k + 1 ≤ mc ∧ u + N ≤ ms) (hF : Fr S n) (ht : T9[n]? = some (.inr (1, N)))
    (kk : G g y d mc ms (pc + 2) ls (gr g n :: st) (hp g (shT (n + 1)) S) (n + 1) (k + 1) (u + N) Q) : G g y d mc ms pc ls (.int (iI a) :: st) (hp g (shT n) S) n k u Q :=
  S_newI hd harr ha hN hcs hF (by rw [shT_s ht]; exact kk)
theorem T_newB {a : Int} {N : Nat} (hd : decode y.2.1 pc = .ok (.newarray .byte, 2)) (harr : Cond.arrayClass .byte ∈ W0) (ha : a = N) (hN : N ≤ 100000) (hcs : k + 1 ≤ mc ∧ u + N ≤ ms) (hF : Fr S n) (ht : T9[n]? = some (.inr (0, N)))
    (kk : G g y d mc ms (pc + 2) ls (gr g n :: st) (hp g (shT (n + 1)) S) (n + 1) (k + 1) (u + N) Q) : G g y d mc ms pc ls (.int (iI a) :: st) (hp g (shT n) S) n k u Q :=
  S_newB hd harr ha hN hcs hF (by rw [shT_s ht]; exact kk)
theorem T_newZ {a : Int} {N : Nat} (hd : decode y.2.1 pc = .ok (.newarray .boolean, 2)) (harr : Cond.arrayClass .boolean ∈ W0) (ha : a = N) (hN : N ≤ 100000) (hcs : k + 1 ≤ mc ∧ u + N ≤ ms) (hF : Fr S n) (ht : T9[n]? = some (.inr (3, N)))
    (kk : G g y d mc ms (pc + 2) ls (gr g n :: st) (hp g (shT (n + 1)) S) (n + 1) (k + 1) (u + N) Q) : G g y d mc ms pc ls (.int (iI a) :: st) (hp g (shT n) S) n k u Q :=
  S_newZ hd harr ha hN hcs hF (by rw [shT_s ht]; exact kk)
theorem T_newJ {a : Int} {N : Nat} (hd : decode y.2.1 pc = .ok (.newarray .long, 2)) (harr : Cond.arrayClass .long ∈ W0) (ha : a = N) (hN : N ≤ 100000) (hcs : k + 1 ≤ mc ∧ u + N ≤ ms) (hF : Fr S n) (ht : T9[n]? = some (.inr (2, N)))
    (kk : G g y d mc ms (pc + 2) ls (gr g n :: st) (hp g (shT (n + 1)) S) (n + 1) (k + 1) (u + N) Q) : G g y d mc ms pc ls (.int (iI a) :: st) (hp g (shT n) S) n k u Q :=
  S_newJ hd harr ha hN hcs hF (by rw [shT_s ht]; exact kk)
theorem T_newR {a : Int} {ix N t : Nat} {C : String} (hd : decode y.2.1 pc = .ok (.anewarray ix, 3)) (hcl : Cond.classLink y.1.cls ix C ∈ W0) (ho : C ∈ gOver) (ht : (gtys g)[t + 4]? = some (gY g (t + 4), .object C)) (ha : a = N) (hN : N ≤ 100000) (hcs : k + 1 ≤ mc ∧ u + N ≤ ms) (hF : Fr S n) (hT : T9[n]? = some (.inr (t + 4, N)))
    (kk : G g y d mc ms (pc + 3) ls (gr g n :: st) (hp g (shT (n + 1)) S) (n + 1) (k + 1) (u + N) Q) : G g y d mc ms pc ls (.int (iI a) :: st) (hp g (shT n) S) n k u Q :=
  S_newR hd hcl ho ht ha hN hcs hF (by rw [shT_s hT]; exact kk)
theorem c_X4_T {a N : Nat} (han : a < n) (hs : T9[a]? = some (.inl 4)) (hF : Fr S n) (ht : T9[n]? = some (.inr (1, N))) (hN : N ≤ 100000) (hq : Q none (hp g (shT (n + 1)) (setP S a 0 (some n))) (n + 1)) : GCall g mX4_init 2 1 N [gr g a, .int (iI N)] (hp g (shT n) S) n Q :=
  c_X4_init (shT_at han hs) han hF hN (by rw [shT_s ht]; exact hq)
theorem c_X5_T {a : Nat} (han : a < n) (hs : T9[a]? = some (.inl 5)) (hF : Fr S n) (ht : T9[n]? = some (.inr (1, 40))) (hq : Q none (hp g (shT (n + 1)) (setP (setF S a 0 (-1)) a 2 (some n))) (n + 1)) : GCall g mX5_init 1 1 40 [gr g a] (hp g (shT n) S) n Q :=
  c_X5_init (shT_at han hs) han hF (by rw [shT_s ht]; exact hq)
theorem c_X7_T {a : Nat} (han : a < n) (hs : T9[a]? = some (.inl 7)) (hF : Fr S n) (h0 : T9[n]? = some (.inr (1, 160))) (h1 : T9[n + 1]? = some (.inr (1, 3))) (h2 : T9[n + 2]? = some (.inr (1, 160))) (hq : Q none (hp g (shT (n + 3)) (setP (setP (setP S a 0 (some n)) a 2 (some (n + 1))) a 4 (some (n + 2)))) (n + 3)) : GCall g mX7_init 1 3 323 [gr g a] (hp g (shT n) S) n Q :=
  c_X7_init (shT_at han hs) han hF (by rw [shT_s h0, shT_s h1, shT_s h2]; exact hq)
end TROWS
set_option maxRecDepth 100000 in
set_option maxHeartbeats 4000000 in
theorem c_X6_init {g : GC} {S : SS} {Q : Option Value → GA → Nat → Prop} (hF : Fr S 6) (hq : Q none (hp g (shT 9) (setP (setP (setP S 5 0 (some 6)) 5 2 (some 7)) 5 3 (some 8))) 9) : GCall g mX6_init 1 3 480 [gr g 5] (hp g (shT 6) S) 6 Q := by
  refine GCall.of (by decide) (Nat.le_of_ble_eq_true rfl) (ls := [(0, _)]) rfl ?_
  refine S_aload_n (pc := 0) dX6_init_0 rfl ?_
  refine G_objInit (pc := 1) dX6_init_1 lkX6_3 oi_in oi_co rfl (Nat.le_of_ble_eq_true rfl) (by decide) ?_
  refine S_aload_n (pc := 4) dX6_init_4 rfl ?_
  refine G_sipush (pc := 5) dX6_init_5 rfl ?_
  refine T_newB (pc := 8) (N := 160) dX6_init_8 ar_byte rfl (by omega) (by decide) (by repeat' first | refine Fr_P ?_ (of_decide_eq_true rfl) | refine Fr_F ?_ (of_decide_eq_true rfl) | exact Fr_le hF (of_decide_eq_true rfl)) rfl ?_
  refine S_putRF (pc := 10) dX6_init_10 fX6_9 rfl (shT_at (of_decide_eq_true rfl) rfl) rfl ⟨rfl, rfl⟩ ?_
  refine S_aload_n (pc := 13) dX6_init_13 rfl ?_
  refine G_sipush (pc := 14) dX6_init_14 rfl ?_
  refine T_newI (pc := 17) (N := 160) dX6_init_17 ar_int rfl (by omega) (by decide) (by repeat' first | refine Fr_P ?_ (of_decide_eq_true rfl) | refine Fr_F ?_ (of_decide_eq_true rfl) | exact Fr_le hF (of_decide_eq_true rfl)) rfl ?_
  refine S_putRF (pc := 19) dX6_init_19 fX6_15 rfl (shT_at (of_decide_eq_true rfl) rfl) rfl ⟨rfl, rfl⟩ ?_
  refine S_aload_n (pc := 22) dX6_init_22 rfl ?_
  refine G_sipush (pc := 23) dX6_init_23 rfl ?_
  refine T_newI (pc := 26) (N := 160) dX6_init_26 ar_int rfl (by omega) (by decide) (by repeat' first | refine Fr_P ?_ (of_decide_eq_true rfl) | refine Fr_F ?_ (of_decide_eq_true rfl) | exact Fr_le hF (of_decide_eq_true rfl)) rfl ?_
  refine S_putRF (pc := 28) dX6_init_28 fX6_19 rfl (shT_at (of_decide_eq_true rfl) rfl) rfl ⟨rfl, rfl⟩ ?_
  refine G_vret (pc := 31) dX6_init_31 rfl (by decide) ?_
  exact hq
set_option maxRecDepth 100000 in
set_option maxHeartbeats 4000000 in
theorem c_X0_init {g : GC} {S : SS} {Q : Option Value → GA → Nat → Prop} (hF : Fr S 14) (hq : Q none (hp g (shT 30) (setP (setP (setP (setP (setP (setP (setP (setP (setP (setP (setP (setP (setP (setP (setP (setP (setP S 14 0 (some 15)) 13 1 (some 14)) 16 0 (some 17)) 13 2 (some 16)) 18 0 (some 19)) 13 3 (some 18)) 20 0 (some 21)) 13 4 (some 20)) 22 0 (some 23)) 13 5 (some 22)) 24 0 (some 25)) 13 6 (some 24)) 26 0 (some 27)) 13 7 (some 26)) 28 0 (some 29)) 13 8 (some 28)) 13 0 (some 12))) 30) : GCall g mX0_init 3 16 466 [gr g 13, gr g 12] (hp g (shT 14) S) 14 Q := by
  refine GCall.of (by decide) (Nat.le_of_ble_eq_true rfl) (ls := [(0, _), (1, _)]) rfl ?_
  refine S_aload_n (pc := 0) dX0_init_0 rfl ?_
  refine G_objInit (pc := 1) dX0_init_1 lkX0_3 oi_in oi_co rfl (Nat.le_of_ble_eq_true rfl) (by decide) ?_
  refine S_aload_n (pc := 4) dX0_init_4 rfl ?_
  refine T_new (pc := 5) (ci := 4) dX0_init_5 gcX4 clX0_9 inX4 niX4 (nf_X4 (by repeat' first | refine Fr_P ?_ (of_decide_eq_true rfl) | refine Fr_F ?_ (of_decide_eq_true rfl) | exact Fr_le hF (of_decide_eq_true rfl))) (by decide) rfl ?_
  refine G_dup (pc := 8) dX0_init_8 rfl ?_
  refine G_bipush (pc := 9) dX0_init_9 rfl ?_
  refine G_callI (pc := 11) (d2 := 2) (mc2 := 1) (ms2 := 64) (As := [_]) dX0_init_11 kX4_init lkX0_11 rfl rfl (Nat.le_of_ble_eq_true rfl) ⟨by decide, by decide⟩ (by decide) ?_
  refine c_X4_T (N := 64) (of_decide_eq_true rfl) rfl (by repeat' first | refine Fr_P ?_ (of_decide_eq_true rfl) | refine Fr_F ?_ (of_decide_eq_true rfl) | exact Fr_le hF (of_decide_eq_true rfl)) rfl (of_decide_eq_true rfl) ?_
  show G _ _ _ _ _ _ _ _ _ _ _ _ _
  refine S_putRF (pc := 14) dX0_init_14 fX0_14 rfl (shT_at (of_decide_eq_true rfl) rfl) rfl ⟨rfl, rfl⟩ ?_
  refine S_aload_n (pc := 17) dX0_init_17 rfl ?_
  refine T_new (pc := 18) (ci := 4) dX0_init_18 gcX4 clX0_9 inX4 niX4 (nf_X4 (by repeat' first | refine Fr_P ?_ (of_decide_eq_true rfl) | refine Fr_F ?_ (of_decide_eq_true rfl) | exact Fr_le hF (of_decide_eq_true rfl))) (by decide) rfl ?_
  refine G_dup (pc := 21) dX0_init_21 rfl ?_
  refine G_bipush (pc := 22) dX0_init_22 rfl ?_
  refine G_callI (pc := 24) (d2 := 2) (mc2 := 1) (ms2 := 64) (As := [_]) dX0_init_24 kX4_init lkX0_11 rfl rfl (Nat.le_of_ble_eq_true rfl) ⟨by decide, by decide⟩ (by decide) ?_
  refine c_X4_T (N := 64) (of_decide_eq_true rfl) rfl (by repeat' first | refine Fr_P ?_ (of_decide_eq_true rfl) | refine Fr_F ?_ (of_decide_eq_true rfl) | exact Fr_le hF (of_decide_eq_true rfl)) rfl (of_decide_eq_true rfl) ?_
  show G _ _ _ _ _ _ _ _ _ _ _ _ _
  refine S_putRF (pc := 27) dX0_init_27 fX0_20 rfl (shT_at (of_decide_eq_true rfl) rfl) rfl ⟨rfl, rfl⟩ ?_
  refine S_aload_n (pc := 30) dX0_init_30 rfl ?_
  refine T_new (pc := 31) (ci := 4) dX0_init_31 gcX4 clX0_9 inX4 niX4 (nf_X4 (by repeat' first | refine Fr_P ?_ (of_decide_eq_true rfl) | refine Fr_F ?_ (of_decide_eq_true rfl) | exact Fr_le hF (of_decide_eq_true rfl))) (by decide) rfl ?_
  refine G_dup (pc := 34) dX0_init_34 rfl ?_
  refine G_bipush (pc := 35) dX0_init_35 rfl ?_
  refine G_callI (pc := 37) (d2 := 2) (mc2 := 1) (ms2 := 64) (As := [_]) dX0_init_37 kX4_init lkX0_11 rfl rfl (Nat.le_of_ble_eq_true rfl) ⟨by decide, by decide⟩ (by decide) ?_
  refine c_X4_T (N := 64) (of_decide_eq_true rfl) rfl (by repeat' first | refine Fr_P ?_ (of_decide_eq_true rfl) | refine Fr_F ?_ (of_decide_eq_true rfl) | exact Fr_le hF (of_decide_eq_true rfl)) rfl (of_decide_eq_true rfl) ?_
  show G _ _ _ _ _ _ _ _ _ _ _ _ _
  refine S_putRF (pc := 40) dX0_init_40 fX0_23 rfl (shT_at (of_decide_eq_true rfl) rfl) rfl ⟨rfl, rfl⟩ ?_
  refine S_aload_n (pc := 43) dX0_init_43 rfl ?_
  refine T_new (pc := 44) (ci := 4) dX0_init_44 gcX4 clX0_9 inX4 niX4 (nf_X4 (by repeat' first | refine Fr_P ?_ (of_decide_eq_true rfl) | refine Fr_F ?_ (of_decide_eq_true rfl) | exact Fr_le hF (of_decide_eq_true rfl))) (by decide) rfl ?_
  refine G_dup (pc := 47) dX0_init_47 rfl ?_
  refine G_iconst (pc := 48) dX0_init_48 ?_
  refine G_callI (pc := 49) (d2 := 2) (mc2 := 1) (ms2 := 2) (As := [_]) dX0_init_49 kX4_init lkX0_11 rfl rfl (Nat.le_of_ble_eq_true rfl) ⟨by decide, by decide⟩ (by decide) ?_
  refine c_X4_T (N := 2) (of_decide_eq_true rfl) rfl (by repeat' first | refine Fr_P ?_ (of_decide_eq_true rfl) | refine Fr_F ?_ (of_decide_eq_true rfl) | exact Fr_le hF (of_decide_eq_true rfl)) rfl (of_decide_eq_true rfl) ?_
  show G _ _ _ _ _ _ _ _ _ _ _ _ _
  refine S_putRF (pc := 52) dX0_init_52 fX0_26 rfl (shT_at (of_decide_eq_true rfl) rfl) rfl ⟨rfl, rfl⟩ ?_
  refine S_aload_n (pc := 55) dX0_init_55 rfl ?_
  refine T_new (pc := 56) (ci := 4) dX0_init_56 gcX4 clX0_9 inX4 niX4 (nf_X4 (by repeat' first | refine Fr_P ?_ (of_decide_eq_true rfl) | refine Fr_F ?_ (of_decide_eq_true rfl) | exact Fr_le hF (of_decide_eq_true rfl))) (by decide) rfl ?_
  refine G_dup (pc := 59) dX0_init_59 rfl ?_
  refine G_bipush (pc := 60) dX0_init_60 rfl ?_
  refine G_callI (pc := 62) (d2 := 2) (mc2 := 1) (ms2 := 64) (As := [_]) dX0_init_62 kX4_init lkX0_11 rfl rfl (Nat.le_of_ble_eq_true rfl) ⟨by decide, by decide⟩ (by decide) ?_
  refine c_X4_T (N := 64) (of_decide_eq_true rfl) rfl (by repeat' first | refine Fr_P ?_ (of_decide_eq_true rfl) | refine Fr_F ?_ (of_decide_eq_true rfl) | exact Fr_le hF (of_decide_eq_true rfl)) rfl (of_decide_eq_true rfl) ?_
  show G _ _ _ _ _ _ _ _ _ _ _ _ _
  refine S_putR (pc := 65) dX0_init_65 fX0_29 (shT_at (of_decide_eq_true rfl) rfl) rfl ⟨rfl, rfl⟩ ?_
  refine S_aload_n (pc := 68) dX0_init_68 rfl ?_
  refine T_new (pc := 69) (ci := 4) dX0_init_69 gcX4 clX0_9 inX4 niX4 (nf_X4 (by repeat' first | refine Fr_P ?_ (of_decide_eq_true rfl) | refine Fr_F ?_ (of_decide_eq_true rfl) | exact Fr_le hF (of_decide_eq_true rfl))) (by decide) rfl ?_
  refine G_dup (pc := 72) dX0_init_72 rfl ?_
  refine G_bipush (pc := 73) dX0_init_73 rfl ?_
  refine G_callI (pc := 75) (d2 := 2) (mc2 := 1) (ms2 := 64) (As := [_]) dX0_init_75 kX4_init lkX0_11 rfl rfl (Nat.le_of_ble_eq_true rfl) ⟨by decide, by decide⟩ (by decide) ?_
  refine c_X4_T (N := 64) (of_decide_eq_true rfl) rfl (by repeat' first | refine Fr_P ?_ (of_decide_eq_true rfl) | refine Fr_F ?_ (of_decide_eq_true rfl) | exact Fr_le hF (of_decide_eq_true rfl)) rfl (of_decide_eq_true rfl) ?_
  show G _ _ _ _ _ _ _ _ _ _ _ _ _
  refine S_putR (pc := 78) dX0_init_78 fX0_32 (shT_at (of_decide_eq_true rfl) rfl) rfl ⟨rfl, rfl⟩ ?_
  refine S_aload_n (pc := 81) dX0_init_81 rfl ?_
  refine T_new (pc := 82) (ci := 4) dX0_init_82 gcX4 clX0_9 inX4 niX4 (nf_X4 (by repeat' first | refine Fr_P ?_ (of_decide_eq_true rfl) | refine Fr_F ?_ (of_decide_eq_true rfl) | exact Fr_le hF (of_decide_eq_true rfl))) (by decide) rfl ?_
  refine G_dup (pc := 85) dX0_init_85 rfl ?_
  refine G_bipush (pc := 86) dX0_init_86 rfl ?_
  refine G_callI (pc := 88) (d2 := 2) (mc2 := 1) (ms2 := 64) (As := [_]) dX0_init_88 kX4_init lkX0_11 rfl rfl (Nat.le_of_ble_eq_true rfl) ⟨by decide, by decide⟩ (by decide) ?_
  refine c_X4_T (N := 64) (of_decide_eq_true rfl) rfl (by repeat' first | refine Fr_P ?_ (of_decide_eq_true rfl) | refine Fr_F ?_ (of_decide_eq_true rfl) | exact Fr_le hF (of_decide_eq_true rfl)) rfl (of_decide_eq_true rfl) ?_
  show G _ _ _ _ _ _ _ _ _ _ _ _ _
  refine S_putR (pc := 91) dX0_init_91 fX0_35 (shT_at (of_decide_eq_true rfl) rfl) rfl ⟨rfl, rfl⟩ ?_
  refine S_aload_n (pc := 94) dX0_init_94 rfl ?_
  refine T_new (pc := 95) (ci := 4) dX0_init_95 gcX4 clX0_9 inX4 niX4 (nf_X4 (by repeat' first | refine Fr_P ?_ (of_decide_eq_true rfl) | refine Fr_F ?_ (of_decide_eq_true rfl) | exact Fr_le hF (of_decide_eq_true rfl))) (by decide) rfl ?_
  refine G_dup (pc := 98) dX0_init_98 rfl ?_
  refine G_bipush (pc := 99) dX0_init_99 rfl ?_
  refine G_callI (pc := 101) (d2 := 2) (mc2 := 1) (ms2 := 64) (As := [_]) dX0_init_101 kX4_init lkX0_11 rfl rfl (Nat.le_of_ble_eq_true rfl) ⟨by decide, by decide⟩ (by decide) ?_
  refine c_X4_T (N := 64) (of_decide_eq_true rfl) rfl (by repeat' first | refine Fr_P ?_ (of_decide_eq_true rfl) | refine Fr_F ?_ (of_decide_eq_true rfl) | exact Fr_le hF (of_decide_eq_true rfl)) rfl (of_decide_eq_true rfl) ?_
  show G _ _ _ _ _ _ _ _ _ _ _ _ _
  refine S_putR (pc := 104) dX0_init_104 fX0_38 (shT_at (of_decide_eq_true rfl) rfl) rfl ⟨rfl, rfl⟩ ?_
  refine S_aload_n (pc := 107) dX0_init_107 rfl ?_
  refine S_aload_n (pc := 108) dX0_init_108 rfl ?_
  refine S_putRF (pc := 109) dX0_init_109 fX0_41 rfl (shT_at (of_decide_eq_true rfl) rfl) rfl ⟨rfl, rfl⟩ ?_
  refine G_vret (pc := 112) dX0_init_112 rfl (by decide) ?_
  exact hq
set_option maxRecDepth 100000 in
set_option maxHeartbeats 4000000 in
theorem c_X2_init {g : GC} {S : SS} {Q : Option Value → GA → Nat → Prop} (hF : Fr S 31) (hq : Q none (hp g (shT 43) (setP (setP (setP (setP (setP (setP (setP (setP (setP (setP (setP (setP (setP (setP S 30 2 (some 31)) 30 3 (some 32)) 33 0 (some 34)) 30 5 (some 33)) 35 0 (some 36)) 30 6 (some 35)) 37 0 (some 38)) 30 7 (some 37)) 39 0 (some 40)) 30 8 (some 39)) 41 0 (some 42)) 30 9 (some 41)) 30 0 (some 12)) 30 1 (some 13))) 43) : GCall g mX2_init 3 12 362 [gr g 30, gr g 12, gr g 13] (hp g (shT 31) S) 31 Q := by
  refine GCall.of (by decide) (Nat.le_of_ble_eq_true rfl) (ls := [(0, _), (1, _), (2, _)]) rfl ?_
  refine S_aload_n (pc := 0) dX2_init_0 rfl ?_
  refine G_objInit (pc := 1) dX2_init_1 lkX2_3 oi_in oi_co rfl (Nat.le_of_ble_eq_true rfl) (by decide) ?_
  refine S_aload_n (pc := 4) dX2_init_4 rfl ?_
  refine G_bipush (pc := 5) dX2_init_5 rfl ?_
  refine T_newI (pc := 7) (N := 16) dX2_init_7 ar_int rfl (by omega) (by decide) (by repeat' first | refine Fr_P ?_ (of_decide_eq_true rfl) | refine Fr_F ?_ (of_decide_eq_true rfl) | exact Fr_le hF (of_decide_eq_true rfl)) rfl ?_
  refine S_putRF (pc := 9) dX2_init_9 fX2_9 rfl (shT_at (of_decide_eq_true rfl) rfl) rfl ⟨rfl, rfl⟩ ?_
  refine S_aload_n (pc := 12) dX2_init_12 rfl ?_
  refine G_bipush (pc := 13) dX2_init_13 rfl ?_
  refine T_newI (pc := 15) (N := 16) dX2_init_15 ar_int rfl (by omega) (by decide) (by repeat' first | refine Fr_P ?_ (of_decide_eq_true rfl) | refine Fr_F ?_ (of_decide_eq_true rfl) | exact Fr_le hF (of_decide_eq_true rfl)) rfl ?_
  refine S_putRF (pc := 17) dX2_init_17 fX2_15 rfl (shT_at (of_decide_eq_true rfl) rfl) rfl ⟨rfl, rfl⟩ ?_
  refine S_aload_n (pc := 20) dX2_init_20 rfl ?_
  refine T_new (pc := 21) (ci := 4) dX2_init_21 gcX4 clX2_18 inX4 niX4 (nf_X4 (by repeat' first | refine Fr_P ?_ (of_decide_eq_true rfl) | refine Fr_F ?_ (of_decide_eq_true rfl) | exact Fr_le hF (of_decide_eq_true rfl))) (by decide) rfl ?_
  refine G_dup (pc := 24) dX2_init_24 rfl ?_
  refine G_bipush (pc := 25) dX2_init_25 rfl ?_
  refine G_callI (pc := 27) (d2 := 2) (mc2 := 1) (ms2 := 64) (As := [_]) dX2_init_27 kX4_init lkX2_20 rfl rfl (Nat.le_of_ble_eq_true rfl) ⟨by decide, by decide⟩ (by decide) ?_
  refine c_X4_T (N := 64) (of_decide_eq_true rfl) rfl (by repeat' first | refine Fr_P ?_ (of_decide_eq_true rfl) | refine Fr_F ?_ (of_decide_eq_true rfl) | exact Fr_le hF (of_decide_eq_true rfl)) rfl (of_decide_eq_true rfl) ?_
  show G _ _ _ _ _ _ _ _ _ _ _ _ _
  refine S_putRF (pc := 30) dX2_init_30 fX2_23 rfl (shT_at (of_decide_eq_true rfl) rfl) rfl ⟨rfl, rfl⟩ ?_
  refine S_aload_n (pc := 33) dX2_init_33 rfl ?_
  refine T_new (pc := 34) (ci := 4) dX2_init_34 gcX4 clX2_18 inX4 niX4 (nf_X4 (by repeat' first | refine Fr_P ?_ (of_decide_eq_true rfl) | refine Fr_F ?_ (of_decide_eq_true rfl) | exact Fr_le hF (of_decide_eq_true rfl))) (by decide) rfl ?_
  refine G_dup (pc := 37) dX2_init_37 rfl ?_
  refine G_bipush (pc := 38) dX2_init_38 rfl ?_
  refine G_callI (pc := 40) (d2 := 2) (mc2 := 1) (ms2 := 64) (As := [_]) dX2_init_40 kX4_init lkX2_20 rfl rfl (Nat.le_of_ble_eq_true rfl) ⟨by decide, by decide⟩ (by decide) ?_
  refine c_X4_T (N := 64) (of_decide_eq_true rfl) rfl (by repeat' first | refine Fr_P ?_ (of_decide_eq_true rfl) | refine Fr_F ?_ (of_decide_eq_true rfl) | exact Fr_le hF (of_decide_eq_true rfl)) rfl (of_decide_eq_true rfl) ?_
  show G _ _ _ _ _ _ _ _ _ _ _ _ _
  refine S_putRF (pc := 43) dX2_init_43 fX2_27 rfl (shT_at (of_decide_eq_true rfl) rfl) rfl ⟨rfl, rfl⟩ ?_
  refine S_aload_n (pc := 46) dX2_init_46 rfl ?_
  refine T_new (pc := 47) (ci := 4) dX2_init_47 gcX4 clX2_18 inX4 niX4 (nf_X4 (by repeat' first | refine Fr_P ?_ (of_decide_eq_true rfl) | refine Fr_F ?_ (of_decide_eq_true rfl) | exact Fr_le hF (of_decide_eq_true rfl))) (by decide) rfl ?_
  refine G_dup (pc := 50) dX2_init_50 rfl ?_
  refine G_bipush (pc := 51) dX2_init_51 rfl ?_
  refine G_callI (pc := 53) (d2 := 2) (mc2 := 1) (ms2 := 64) (As := [_]) dX2_init_53 kX4_init lkX2_20 rfl rfl (Nat.le_of_ble_eq_true rfl) ⟨by decide, by decide⟩ (by decide) ?_
  refine c_X4_T (N := 64) (of_decide_eq_true rfl) rfl (by repeat' first | refine Fr_P ?_ (of_decide_eq_true rfl) | refine Fr_F ?_ (of_decide_eq_true rfl) | exact Fr_le hF (of_decide_eq_true rfl)) rfl (of_decide_eq_true rfl) ?_
  show G _ _ _ _ _ _ _ _ _ _ _ _ _
  refine S_putR (pc := 56) dX2_init_56 fX2_30 (shT_at (of_decide_eq_true rfl) rfl) rfl ⟨rfl, rfl⟩ ?_
  refine S_aload_n (pc := 59) dX2_init_59 rfl ?_
  refine T_new (pc := 60) (ci := 4) dX2_init_60 gcX4 clX2_18 inX4 niX4 (nf_X4 (by repeat' first | refine Fr_P ?_ (of_decide_eq_true rfl) | refine Fr_F ?_ (of_decide_eq_true rfl) | exact Fr_le hF (of_decide_eq_true rfl))) (by decide) rfl ?_
  refine G_dup (pc := 63) dX2_init_63 rfl ?_
  refine G_bipush (pc := 64) dX2_init_64 rfl ?_
  refine G_callI (pc := 66) (d2 := 2) (mc2 := 1) (ms2 := 64) (As := [_]) dX2_init_66 kX4_init lkX2_20 rfl rfl (Nat.le_of_ble_eq_true rfl) ⟨by decide, by decide⟩ (by decide) ?_
  refine c_X4_T (N := 64) (of_decide_eq_true rfl) rfl (by repeat' first | refine Fr_P ?_ (of_decide_eq_true rfl) | refine Fr_F ?_ (of_decide_eq_true rfl) | exact Fr_le hF (of_decide_eq_true rfl)) rfl (of_decide_eq_true rfl) ?_
  show G _ _ _ _ _ _ _ _ _ _ _ _ _
  refine S_putR (pc := 69) dX2_init_69 fX2_33 (shT_at (of_decide_eq_true rfl) rfl) rfl ⟨rfl, rfl⟩ ?_
  refine S_aload_n (pc := 72) dX2_init_72 rfl ?_
  refine T_new (pc := 73) (ci := 4) dX2_init_73 gcX4 clX2_18 inX4 niX4 (nf_X4 (by repeat' first | refine Fr_P ?_ (of_decide_eq_true rfl) | refine Fr_F ?_ (of_decide_eq_true rfl) | exact Fr_le hF (of_decide_eq_true rfl))) (by decide) rfl ?_
  refine G_dup (pc := 76) dX2_init_76 rfl ?_
  refine G_bipush (pc := 77) dX2_init_77 rfl ?_
  refine G_callI (pc := 79) (d2 := 2) (mc2 := 1) (ms2 := 64) (As := [_]) dX2_init_79 kX4_init lkX2_20 rfl rfl (Nat.le_of_ble_eq_true rfl) ⟨by decide, by decide⟩ (by decide) ?_
  refine c_X4_T (N := 64) (of_decide_eq_true rfl) rfl (by repeat' first | refine Fr_P ?_ (of_decide_eq_true rfl) | refine Fr_F ?_ (of_decide_eq_true rfl) | exact Fr_le hF (of_decide_eq_true rfl)) rfl (of_decide_eq_true rfl) ?_
  show G _ _ _ _ _ _ _ _ _ _ _ _ _
  refine S_putR (pc := 82) dX2_init_82 fX2_36 (shT_at (of_decide_eq_true rfl) rfl) rfl ⟨rfl, rfl⟩ ?_
  refine S_aload_n (pc := 85) dX2_init_85 rfl ?_
  refine S_aload_n (pc := 86) dX2_init_86 rfl ?_
  refine S_putRF (pc := 87) dX2_init_87 fX2_39 rfl (shT_at (of_decide_eq_true rfl) rfl) rfl ⟨rfl, rfl⟩ ?_
  refine S_aload_n (pc := 90) dX2_init_90 rfl ?_
  refine S_aload_n (pc := 91) dX2_init_91 rfl ?_
  refine S_putRF (pc := 92) dX2_init_92 fX2_43 rfl (shT_at (of_decide_eq_true rfl) rfl) rfl ⟨rfl, rfl⟩ ?_
  refine G_vret (pc := 95) dX2_init_95 rfl (by decide) ?_
  exact hq
set_option maxRecDepth 100000 in
set_option maxHeartbeats 4000000 in
theorem c_X1_init {g : GC} {S : SS} {Q : Option Value → GA → Nat → Prop} (hF : Fr S 44) (hq : Q none (hp g (shT 48) (setP (setF (setP (setP (setP (setP S 44 0 (some 45)) 44 2 (some 46)) 44 4 (some 47)) 43 1 (some 44)) 43 4 (-1)) 43 0 (some 5))) 48) : GCall g mX1_init 2 4 329 [gr g 43, gr g 5] (hp g (shT 44) S) 44 Q := by
  refine GCall.of (by decide) (Nat.le_of_ble_eq_true rfl) (ls := [(0, _), (1, _)]) rfl ?_
  refine S_aload_n (pc := 0) dX1_init_0 rfl ?_
  refine G_objInit (pc := 1) dX1_init_1 lkX1_3 oi_in oi_co rfl (Nat.le_of_ble_eq_true rfl) (by decide) ?_
  refine S_aload_n (pc := 4) dX1_init_4 rfl ?_
  refine T_new (pc := 5) (ci := 7) dX1_init_5 gcX7 clX1_9 inX7 niX7 (nf_X7 (by repeat' first | refine Fr_P ?_ (of_decide_eq_true rfl) | refine Fr_F ?_ (of_decide_eq_true rfl) | exact Fr_le hF (of_decide_eq_true rfl))) (by decide) rfl ?_
  refine G_dup (pc := 8) dX1_init_8 rfl ?_
  refine G_callIN (pc := 9) (d2 := 1) (mc2 := 3) (ms2 := 323) (As := []) dX1_init_9 kX7_init lkX1_11 rfl rfl (Nat.le_of_ble_eq_true rfl) ⟨by decide, by decide⟩ (by decide) ?_
  refine c_X7_T (of_decide_eq_true rfl) rfl (by repeat' first | refine Fr_P ?_ (of_decide_eq_true rfl) | refine Fr_F ?_ (of_decide_eq_true rfl) | exact Fr_le hF (of_decide_eq_true rfl)) rfl rfl rfl ?_
  show G _ _ _ _ _ _ _ _ _ _ _ _ _
  refine S_putR (pc := 12) dX1_init_12 fX1_12 (shT_at (of_decide_eq_true rfl) rfl) rfl ⟨rfl, rfl⟩ ?_
  refine S_aload_n (pc := 15) dX1_init_15 rfl ?_
  refine G_iconst (pc := 16) dX1_init_16 ?_
  refine S_putI (pc := 17) dX1_init_17 fX1_18 (shT_at (of_decide_eq_true rfl) rfl) rfl ⟨rfl, rfl⟩ ?_
  refine S_aload_n (pc := 20) dX1_init_20 rfl ?_
  refine S_aload_n (pc := 21) dX1_init_21 rfl ?_
  refine S_putRF (pc := 22) dX1_init_22 fX1_22 rfl (shT_at (of_decide_eq_true rfl) rfl) rfl ⟨rfl, rfl⟩ ?_
  refine G_vret (pc := 25) dX1_init_25 rfl (by decide) ?_
  exact hq
