/-! the Model: feed, text, force, says, the planner -/
/-- byte i of a number -/
def fbt (z : Int) (i : Nat) : Int := z / 256 ^ i % 256
theorem fbt_bd {z : Int} {i : Nat} : 0 ≤ fbt z i ∧ fbt z i ≤ 255 := by unfold fbt; omega
theorem iL_and255 {a : Int} : iL a &&& iL 255 = iL (a % 256) := by
  apply Int64.toBitVec_inj.mp
  rw [Int64.toBitVec_and]
  show BitVec.ofInt 64 a &&& BitVec.ofInt 64 255 = BitVec.ofInt 64 (a % 256)
  apply BitVec.eq_of_toNat_eq
  rw [BitVec.toNat_and, BitVec.toNat_ofInt, BitVec.toNat_ofInt, BitVec.toNat_ofInt]
  have e : ((255 : Int) % (2 ^ 64 : Nat)).toNat = 2 ^ 8 - 1 := by decide
  rw [e, Nat.and_two_pow_sub_one_eq_mod]
  omega
theorem ediv_bdL {z c : Int} (hc : 1 ≤ c) (hz : -9223372036854775808 ≤ z ∧ z ≤ 9223372036854775807) : -9223372036854775808 ≤ z / c ∧ z / c ≤ 9223372036854775807 := by
  constructor
  · rcases Int.lt_or_le z 0 with h | h
    · have h2 : z ≤ z / c := Int.le_ediv_of_mul_le (by omega) (by
        have := Int.mul_le_mul_of_nonpos_left (Int.le_of_lt h) hc
        omega)
      omega
    · have := Int.ediv_nonneg h (b := c) (by omega)
      omega
  · rcases Int.lt_or_le z 0 with h | h
    · have := Int.ediv_neg_of_neg_of_pos h (b := c) (by omega)
      omega
    · have := Int.ediv_le_self c h
      omega
theorem iL_shr {z : Int} {k : Nat} {D : Int64} (hz : -9223372036854775808 ≤ z ∧ z ≤ 9223372036854775807) (hD : (D.toBitVec.smod 64).toNat = k) : iL z >>> D = iL (z / 2 ^ k) := by
  have h1 : (1 : Int) ≤ 2 ^ k := by
    have h2 := Nat.one_le_two_pow (n := k)
    have e : ((2 ^ k : Nat) : Int) = 2 ^ k := Int.natCast_pow 2 k
    omega
  apply Int64.toInt_inj.mp
  show (iL z >>> D).toBitVec.toInt = _
  rw [Int64.toBitVec_shiftRight, BitVec.toInt_sshiftRight', hD]
  show (iL z).toInt >>> k = _
  rw [iL_toInt hz, Int.shiftRight_eq_div_pow, iL_toInt (ediv_bdL h1 hz)]
  rw [show ((2 ^ k : Nat) : Int) = 2 ^ k from Int.natCast_pow 2 k]
theorem iL_byte {z i : Int} (hz : -9223372036854775808 ≤ z ∧ z ≤ 9223372036854775807) (hi : 0 ≤ i ∧ i ≤ 7) : iL z >>> ((iI (8 * i)).toInt64 &&& 63) = iL (z / 256 ^ i.toNat) := by
  have h : i = 0 ∨ i = 1 ∨ i = 2 ∨ i = 3 ∨ i = 4 ∨ i = 5 ∨ i = 6 ∨ i = 7 := by omega
  rcases h with e | e | e | e | e | e | e | e <;> subst e
  · exact iL_shr (k := 0) hz (by decide)
  · exact iL_shr (k := 8) hz (by decide)
  · exact iL_shr (k := 16) hz (by decide)
  · exact iL_shr (k := 24) hz (by decide)
  · exact iL_shr (k := 32) hz (by decide)
  · exact iL_shr (k := 40) hz (by decide)
  · exact iL_shr (k := 48) hz (by decide)
  · exact iL_shr (k := 56) hz (by decide)
def MqW (sh : SH) (S : SS) (tp : Int) : Prop := sh 96 = some (.inl 10) ∧ S.2.2 96 13 = some 104 ∧ sh 104 = some (.inr (1, 160)) ∧ S.1 96 14 = tp ∧ (0 ≤ tp ∧ tp ≤ 160) ∧ ∀ i : Int, 0 ≤ S.2.1 104 i ∧ S.2.1 104 i ≤ 255
theorem setA_setF {S : SS} {a k b : Nat} {v i w : Int} : setA (setF S a k v) b i w = setF (setA S b i w) a k v := rfl
def tfd (tp z : Int) : Int → Int := fun j => fbt z (j - tp).toNat
set_option maxRecDepth 100000 in
set_option maxHeartbeats 4000000 in
theorem l_X10_feed {g : GC} {sh : SH} {S : SS} {n : Nat} {tp m z : Int} {Q : Option Value → GA → Nat → Prop} (hV : MqW sh S tp) (hm : 1 ≤ m ∧ m ≤ 8) (hf : tp + m ≤ 160) (hz : -9223372036854775808 ≤ z ∧ z ≤ 9223372036854775807)
    (hq : Q (some (.int (iI (tp + m)))) (hp g sh (setF (putA S 104 (seg tp (tp + m) (tfd tp z) (S.2.1 104))) 96 14 (tp + m))) n) : ∀ (k : Nat) (i : Int), i + k = m → 0 ≤ i → G g mX10_feed 2 0 0 31 [(4, .int (iI i)), (0, gr g 96), (1, .int (iI m)), (2, .long (iL z))] [] (hp g sh (setF (putA S 104 (seg tp (tp + i) (tfd tp z) (S.2.1 104))) 96 14 (tp + i))) n 0 0 Q := by
  obtain ⟨h96, q13, h104, e14, htp, r104⟩ := hV
  intro k
  induction k with
  | zero =>
    intro i hi h0
    have e : i = m := by omega
    subst e
    refine G_iload (pc := 31) dX10_feed_31 rfl ?_
    refine G_iload_n (pc := 33) dX10_feed_33 rfl ?_
    refine G_icmp_ge_t (pc := 34) 74 dX10_feed_34 rfl (by omega) (by omega) ?_
    refine S_aload_n (pc := 74) dX10_feed_74 rfl ?_
    refine S_getI (pc := 75) dX10_feed_75 fX10_165 (by assumption) rfl ?_
    rw [setF_at]
    refine G_iret (pc := 78) dX10_feed_78 rfl (by decide) ?_
    exact hq
  | succ k ih =>
    intro i hi h0
    have hn := ih (i + 1) (by omega) (by omega)
    rw [show tp + (i + 1) = tp + i + 1 by omega, ← seg_S (by omega)] at hn
    have e2 : (setF (setA (putA S 104 (seg tp (tp + i) (tfd tp z) (S.2.1 104))) 104 (tp + i) (tfd tp z (tp + i))) 96 14 (tp + i)).1 96 14 = tp + i := setF_at
    have ev : z / 256 ^ i.toNat % 256 = tfd tp z (tp + i) := by
      unfold tfd fbt
      rw [show tp + i - tp = i by omega]
    refine G_iload (pc := 31) dX10_feed_31 rfl ?_
    refine G_iload_n (pc := 33) dX10_feed_33 rfl ?_
    refine G_icmp_ge_f (pc := 34) 74 dX10_feed_34 rfl (by omega) (by omega) ?_
    refine S_aload_n (pc := 37) dX10_feed_37 rfl ?_
    refine S_getR (pc := 38) dX10_feed_38 fX10_36 (by assumption) rfl (by assumption) ?_
    refine S_aload_n (pc := 41) dX10_feed_41 rfl ?_
    refine S_getI (pc := 42) dX10_feed_42 fX10_165 (by assumption) rfl ?_
    rw [setF_at]
    refine G_lload_n (pc := 45) dX10_feed_45 rfl ?_
    refine G_bipush (pc := 46) dX10_feed_46 rfl ?_
    refine G_iload (pc := 48) dX10_feed_48 rfl ?_
    refine G_imul (pc := 50) dX10_feed_50 ?_
    refine G_lshr (pc := 51) dX10_feed_51 (iL_byte hz (by omega)) ?_
    refine G_ldc2 (pc := 52) (z := 255) dX10_feed_52 coX10_77 rfl ?_
    refine G_land (pc := 55) dX10_feed_55 (iL_and255) ?_
    refine G_l2i (pc := 56) dX10_feed_56 ?_
    refine S_iast (pc := 57) dX10_feed_57 (by assumption) (by omega) ?_
    rw [setA_setF, ev]
    refine S_aload_n (pc := 58) dX10_feed_58 rfl ?_
    refine G_dup (pc := 59) dX10_feed_59 rfl ?_
    refine S_getI (pc := 60) dX10_feed_60 fX10_165 (by assumption) rfl ?_
    rw [e2]
    refine G_iconst (pc := 63) dX10_feed_63 ?_
    refine G_iadd (pc := 64) dX10_feed_64 ?_
    refine S_putI (pc := 65) dX10_feed_65 fX10_165 (by assumption) rfl ⟨rfl, rfl⟩ ?_
    refine G_iinc (pc := 68) (ls' := [(4, _), (0, _), (1, _), (2, _)]) dX10_feed_68 rfl (by decide) rfl ?_
    refine G_goto (pc := 71) 31 dX10_feed_71 rfl ?_
    rw [setF_setF, setA_putA]
    exact hn
set_option maxRecDepth 100000 in
set_option maxHeartbeats 4000000 in
theorem c_X10_feed {g : GC} {sh : SH} {S : SS} {n : Nat} {tp m z : Int} {Q : Option Value → GA → Nat → Prop} (hV : MqW sh S tp) (hm : -2147483648 ≤ m ∧ m ≤ 2147483647) (hz : -9223372036854775808 ≤ z ∧ z ≤ 9223372036854775807) (h0 : ¬ (1 ≤ m ∧ m ≤ 8) → Q (some (.int (iI (-2)))) (hp g sh S) n) (h1 : (1 ≤ m ∧ m ≤ 8) → 160 < tp + m → Q (some (.int (iI (-4)))) (hp g sh S) n)
    (h2 : (1 ≤ m ∧ m ≤ 8) → tp + m ≤ 160 → Q (some (.int (iI (tp + m)))) (hp g sh (setF (putA S 104 (seg tp (tp + m) (tfd tp z) (S.2.1 104))) 96 14 (tp + m))) n) : GCall g mX10_feed 2 0 0 [gr g 96, .int (iI m), .long (iL z)] (hp g sh S) n Q := by
  have hV' := hV
  obtain ⟨h96, q13, h104, e14, htp, r104⟩ := hV'
  refine GCall.of (by decide) (Nat.le_of_ble_eq_true rfl) (ls := [(0, _), (1, _), (2, _)]) rfl ?_
  refine G_iload_n (pc := 0) dX10_feed_0 rfl ?_
  refine G_iconst (pc := 1) dX10_feed_1 ?_
  refine G_bipush (pc := 2) dX10_feed_2 rfl ?_
  refine G_callS (pc := 4) (d2 := 1) (mc2 := 0) (ms2 := 0) (As := [_, _, _]) dX10_feed_4 kX10_in lkX10_86 rfl rfl (Nat.le_of_ble_eq_true rfl) ⟨by decide, by decide⟩ (by decide) ?_
  refine c_X10_in (by omega) (fun w4 => ?_) (fun w4 => ?_)
  · show G _ _ _ _ _ _ _ _ _ _ _ _ _
    refine G_if_ne_t (pc := 7) 13 dX10_feed_7 rfl (by decide) (by decide) ?_
    refine S_aload_n (pc := 13) dX10_feed_13 rfl ?_
    refine S_getI (pc := 14) dX10_feed_14 fX10_165 (by assumption) rfl ?_
    rw [e14]
    refine G_iload_n (pc := 17) dX10_feed_17 rfl ?_
    refine G_iadd (pc := 18) dX10_feed_18 ?_
    refine G_sipush (pc := 19) dX10_feed_19 rfl ?_
    refine G_icmp_le (pc := 22) 28 dX10_feed_22 rfl (by omega) (fun c22 => ?_) (fun c22 => ?_)
    · skip
      refine G_iconst (pc := 28) dX10_feed_28 ?_
      refine G_istore (pc := 29) (ls' := [(4, _), (0, _), (1, _), (2, _)]) dX10_feed_29 (by decide) rfl ?_
      have := l_X10_feed hV (by omega) (by omega) hz (h2 (by omega) (by omega)) m.toNat 0 (by omega) (Int.le_refl _)
      rw [Int.add_zero, seg_0, putA_same, show setF S 96 14 tp = S by rw [← e14]; exact setF_same] at this
      exact this
    · skip
      refine G_bipush (pc := 25) dX10_feed_25 rfl ?_
      refine G_iret (pc := 27) dX10_feed_27 rfl (by decide) ?_
      exact h1 (by omega) (by omega)
  · show G _ _ _ _ _ _ _ _ _ _ _ _ _
    refine G_if_ne_f (pc := 7) 13 dX10_feed_7 rfl (by decide) (by decide) ?_
    refine G_bipush (pc := 10) dX10_feed_10 rfl ?_
    refine G_iret (pc := 12) dX10_feed_12 rfl (by decide) ?_
    exact h0 (by omega)
theorem gup_self {h : GA} {a : Nat} {e : va_E} (he : h a = some e) : gup h a e = h := by
  funext b
  unfold gup
  by_cases hb : b = a
  · rw [if_pos hb, hb, he]
  · rw [if_neg hb]
/-- a field's number counts as an int alone -/
theorem hp_nF {g : GC} {sh : SH} {S : SS} {a ci f : Nat} (hs : sh a = some (.inl ci)) (hk : (kds ci)[f]? = some 0) : hp g sh (setF S a f (bw (S.1 a f))) = hp g sh S := by
  rw [← hp_F hs hk, iI_bw]
  have e : (fvs g S ci a).set f (.int (iI (S.1 a f))) = fvs g S ci a := by
    apply List.ext_getElem?
    intro k
    by_cases hkf : k = f
    · rw [hkf, List.getElem?_set_self (fvs_len hk), fvs_at hk]; rfl
    · rw [List.getElem?_set_ne (Ne.symm hkf)]
  rw [e]
  refine gup_self ?_
  unfold hp
  rw [hs]; rfl
/-- THE TAPE put to the texts -/
def mtx (S : SS) (tc tp : Int) : SS := setF (setA (putA S 102 (seg (160 * tc) (160 * tc + tp) (fun j => S.2.1 104 (j - 160 * tc)) (S.2.1 102))) 103 tc tp) 96 14 0
theorem mtB_mtx {S : SS} {tc tp : Int} : mtB (mtx S tc tp) tc = bt tp (S.2.1 104) := by
  have e3 : (mtx S tc tp).2.1 103 tc = tp := by
    show (setA (putA S 102 _) 103 tc tp).2.1 103 tc = tp
    unfold setA
    rw [putA_at]; exact iup_at
  have e2 : (mtx S tc tp).2.1 102 = seg (160 * tc) (160 * tc + tp) (fun j => S.2.1 104 (j - 160 * tc)) (S.2.1 102) := by
    show (setA (putA S 102 _) 103 tc tp).2.1 102 = _
    unfold setA
    rw [putA_ne (by decide), putA_at]
  unfold mtB
  rw [e3, e2]
  funext i
  unfold bt
  by_cases h : 0 ≤ i ∧ i < tp
  · rw [if_pos h, if_pos h]
    show seg (160 * tc) (160 * tc + tp) (fun j => S.2.1 104 (j - 160 * tc)) (S.2.1 102) (160 * tc + i) = _
    rw [seg_in (by omega)]
    exact congrArg _ (by omega)
  · rw [if_neg h, if_neg h]
theorem MxW_mtx {sh : SH} {S : SS} {tc ru tp : Int} (hM : MxW sh S tc ru) (hV : MqW sh S tp) : MxW sh (mtx S tc tp) tc ru := by
  obtain ⟨h96, q9, q10, h102, h103, e11, e12, htc, hru, r102, r103⟩ := hM
  obtain ⟨-, q13, h104, e14, htp, r104⟩ := hV
  have e3 : (mtx S tc tp).2.1 103 = iup (S.2.1 103) tc tp := by
    show (setA (putA S 102 _) 103 tc tp).2.1 103 = _
    unfold setA
    rw [putA_at, putA_ne (by decide)]
  have e2 : (mtx S tc tp).2.1 102 = seg (160 * tc) (160 * tc + tp) (fun j => S.2.1 104 (j - 160 * tc)) (S.2.1 102) := by
    show (setA (putA S 102 _) 103 tc tp).2.1 102 = _
    unfold setA
    rw [putA_ne (by decide), putA_at]
  refine ⟨h96, q9, q10, h102, h103, ?_, ?_, htc, hru, fun i => ?_, fun i => ?_⟩
  · show (setF _ 96 14 0).1 96 11 = tc
    rw [setF_ne (by decide)]; exact e11
  · show (setF _ 96 14 0).1 96 12 = ru
    rw [setF_ne (by decide)]; exact e12
  · rw [e2]
    by_cases h : 160 * tc ≤ i ∧ i < 160 * tc + tp
    · rw [seg_in h]; exact r104 _
    · rw [seg_out h]; exact r102 _
  · rw [e3]
    by_cases h : i = tc
    · rw [h, iup_at]; exact htp
    · rw [iup_ne h]; exact r103 _
set_option maxRecDepth 100000 in
set_option maxHeartbeats 4000000 in
theorem l_X10_text {g : GC} {sh : SH} {S : SS} {n : Nat} {tc ru tp : Int} {X : Int → Int} {Q : Option Value → GA → Nat → Prop} (hM : MxW sh S tc ru) (hV : MqW sh S tp) (htc6 : tc < 6) (hX : X = fun j => S.2.1 104 (j - 160 * tc))
    (K : G g mX10_text 47 0 0 49 [(0, gr g 96)] [] (hp g sh (putA S 102 (seg (160 * tc) (160 * tc + tp) X (S.2.1 102)))) n 0 0 Q) : ∀ (k : Nat) (i : Int), i + k = tp → 0 ≤ i → G g mX10_text 47 0 0 14 [(1, .int (iI i)), (0, gr g 96)] [] (hp g sh (putA S 102 (seg (160 * tc) (160 * tc + i) X (S.2.1 102)))) n 0 0 Q := by
  obtain ⟨h96, q9, q10, h102, h103, e11, e12, htc, hru, r102, r103⟩ := hM
  obtain ⟨-, q13, h104, e14, htp, r104⟩ := hV
  intro k
  induction k with
  | zero =>
    intro i hi h0
    have e : (putA S 102 (seg (160 * tc) (160 * tc + i) X (S.2.1 102))).1 96 14 = tp := e14
    refine G_iload_n (pc := 14) dX10_text_14 rfl ?_
    refine S_aload_n (pc := 15) dX10_text_15 rfl ?_
    refine S_getI (pc := 16) dX10_text_16 fX10_165 (by assumption) rfl ?_
    rw [e]
    refine G_icmp_ge_t (pc := 19) 49 dX10_text_19 rfl (by omega) (by omega) ?_
    refine G_ls (ls' := [(0, _)]) (lsub_c rfl lsub_n) ?_
    rw [show i = tp by omega]
    exact K
  | succ k ih =>
    intro i hi h0
    have hn := ih (i + 1) (by omega) (by omega)
    rw [show 160 * tc + (i + 1) = 160 * tc + i + 1 by omega, ← seg_S (by omega)] at hn
    have e : (putA S 102 (seg (160 * tc) (160 * tc + i) X (S.2.1 102))).1 96 14 = tp := e14
    have e2 : (putA S 102 (seg (160 * tc) (160 * tc + i) X (S.2.1 102))).1 96 11 = tc := e11
    have e3 : (putA S 102 (seg (160 * tc) (160 * tc + i) X (S.2.1 102))).2.1 104 i = X (160 * tc + i) := by
      rw [putA_ne (by decide), hX]
      exact congrArg _ (by omega)
    refine G_iload_n (pc := 14) dX10_text_14 rfl ?_
    refine S_aload_n (pc := 15) dX10_text_15 rfl ?_
    refine S_getI (pc := 16) dX10_text_16 fX10_165 (by assumption) rfl ?_
    rw [e]
    refine G_icmp_ge_f (pc := 19) 49 dX10_text_19 rfl (by omega) (by omega) ?_
    refine S_aload_n (pc := 22) dX10_text_22 rfl ?_
    refine S_getR (pc := 23) dX10_text_23 fX10_30 (by assumption) rfl (by assumption) ?_
    refine G_sipush (pc := 26) dX10_text_26 rfl ?_
    refine S_aload_n (pc := 29) dX10_text_29 rfl ?_
    refine S_getI (pc := 30) dX10_text_30 fX10_79 (by assumption) rfl ?_
    rw [e2]
    refine G_imul (pc := 33) dX10_text_33 ?_
    refine G_iload_n (pc := 34) dX10_text_34 rfl ?_
    refine G_iadd (pc := 35) dX10_text_35 ?_
    refine S_aload_n (pc := 36) dX10_text_36 rfl ?_
    refine S_getR (pc := 37) dX10_text_37 fX10_36 (by assumption) rfl (by assumption) ?_
    refine G_iload_n (pc := 40) dX10_text_40 rfl ?_
    refine S_iald (pc := 41) dX10_text_41 (by assumption) (by omega) ?_
    rw [e3]
    refine S_iast (pc := 42) dX10_text_42 (by assumption) (by omega) ?_
    refine G_iinc (pc := 43) (ls' := [(1, _), (0, _)]) dX10_text_43 rfl (by decide) rfl ?_
    refine G_goto (pc := 46) 14 dX10_text_46 rfl ?_
    rw [setA_putA]
    exact hn
set_option maxRecDepth 100000 in
set_option maxHeartbeats 4000000 in
theorem c_X10_text0 {g : GC} {sh : SH} {S : SS} {n : Nat} {tc ru tp : Int} {env tape : Int → Int} {Q : Option Value → GA → Nat → Prop} (hM : MxW sh S tc ru) (hV : MqW sh S tp) (hE : MtE S env) (hta : S.2.1 104 = tape) (h0 : tc = 6 → Q (some (.int (iI (-4)))) (hp g sh S) n)
    (hF : tc < 6 → ∀ (kf : Nat) (S' : SS), ptx (tkk (bt tp tape)) = .inl kf → MScr (mtx S tc tp) S' → Q (some (.int (iI (-100 - tka tp (bt tp tape) kf)))) (hp g sh S') n)
    (hS : tc < 6 → ∀ (x : List Int × List Int × List Int) (S' : SS), ptx (tkk (bt tp tape)) = .inr x → MScr (mtx S tc tp) S' → Q (some (.int (iI tc))) (hp g sh (setF S' 96 11 (tc + 1))) n) :
    GCall g mX10_text 47 0 0 [gr g 96] (hp g sh S) n Q := by
  subst hta
  have hM' := hM
  obtain ⟨h96, q9, q10, h102, h103, e11, e12, htc, hru, r102, r103⟩ := hM'
  have hV' := hV
  obtain ⟨-, q13, h104, e14, htp, r104⟩ := hV'
  have M1 := MxW_mtx hM hV
  have eN : (mtx S tc tp).2.1 103 tc = tp := by
    show (setA (putA S 102 _) 103 tc tp).2.1 103 tc = tp
    unfold setA
    rw [putA_at]; exact iup_at
  refine GCall.of (by decide) (Nat.le_of_ble_eq_true rfl) (ls := [(0, _)]) rfl ?_
  have KF : tc < 6 → ∀ (kf : Nat) (S' : SS) (v : Int), ptx (tkk (bt tp (S.2.1 104))) = .inl kf → GrR (mtx S tc tp) S' → MtF S' (tka tp (bt tp (S.2.1 104)) kf) → G g mX10_text 47 0 0 76 [(0, gr g 96)] [.int (iI v)] (hp g sh S') n 0 0 Q := by
    intro ht kf S' v e r1 r2
    have e22 := r2.1
    have e23 := r2.2
    refine G_istore_n (pc := 76) (ls' := [(1, _), (0, _)]) dX10_text_76 (by decide) rfl ?_
    refine S_aload_n (pc := 77) dX10_text_77 rfl ?_
    refine S_getI (pc := 78) dX10_text_78 fX10_189 (by assumption) rfl ?_
    rw [e22]
    refine G_if_eq_f (pc := 81) 92 dX10_text_81 rfl (by omega) (by decide) ?_
    refine G_bipush (pc := 84) dX10_text_84 rfl ?_
    refine S_aload_n (pc := 86) dX10_text_86 rfl ?_
    refine S_getI (pc := 87) dX10_text_87 fX10_193 (by assumption) rfl ?_
    rw [e23]
    refine G_isub (pc := 90) dX10_text_90 ?_
    refine G_iret (pc := 91) dX10_text_91 rfl (by decide) ?_
    exact hF ht kf S' e (GrR_scr r1)
  have KS : tc < 6 → ∀ (x : List Int × List Int × List Int) (S' : SS) (v : Int), ptx (tkk (bt tp (S.2.1 104))) = .inr x → GrR (mtx S tc tp) S' → S'.1 96 22 = 0 → G g mX10_text 47 0 0 76 [(0, gr g 96)] [.int (iI v)] (hp g sh S') n 0 0 Q := by
    intro ht x S' v e r1 r2
    have e11' : S'.1 96 11 = tc := by rw [r1.2 96 11 (by decide)]; exact M1.2.2.2.2.2.1
    have e11b : (setF S' 96 11 (tc + 1)).1 96 11 = tc + 1 := setF_at
    refine G_istore_n (pc := 76) (ls' := [(1, _), (0, _)]) dX10_text_76 (by decide) rfl ?_
    refine S_aload_n (pc := 77) dX10_text_77 rfl ?_
    refine S_getI (pc := 78) dX10_text_78 fX10_189 (by assumption) rfl ?_
    rw [r2]
    refine G_if_eq_t (pc := 81) 92 dX10_text_81 rfl (by omega) (by decide) ?_
    refine S_aload_n (pc := 92) dX10_text_92 rfl ?_
    refine G_dup (pc := 93) dX10_text_93 rfl ?_
    refine S_getI (pc := 94) dX10_text_94 fX10_79 (by assumption) rfl ?_
    rw [e11']
    refine G_iconst (pc := 97) dX10_text_97 ?_
    refine G_iadd (pc := 98) dX10_text_98 ?_
    refine S_putI (pc := 99) dX10_text_99 fX10_79 (by assumption) rfl ⟨rfl, rfl⟩ ?_
    refine S_aload_n (pc := 102) dX10_text_102 rfl ?_
    refine S_getI (pc := 103) dX10_text_103 fX10_79 (by assumption) rfl ?_
    rw [e11b]
    refine G_iconst (pc := 106) dX10_text_106 ?_
    refine G_isub (pc := 107) dX10_text_107 ?_
    refine G_iret (pc := 108) dX10_text_108 rfl (by decide) ?_
    exact Q_i (by omega) (hS ht x S' e (GrR_scr r1))
  have K49 : tc < 6 → G g mX10_text 47 0 0 49 [(0, gr g 96)] [] (hp g sh (putA S 102 (seg (160 * tc) (160 * tc + tp) (fun j => S.2.1 104 (j - 160 * tc)) (S.2.1 102)))) n 0 0 Q := by
    intro ht
    have e1 : (putA S 102 (seg (160 * tc) (160 * tc + tp) (fun j => S.2.1 104 (j - 160 * tc)) (S.2.1 102))).1 96 11 = tc := e11
    have e2 : (putA S 102 (seg (160 * tc) (160 * tc + tp) (fun j => S.2.1 104 (j - 160 * tc)) (S.2.1 102))).1 96 14 = tp := e14
    have e3 : (mtx S tc tp).1 96 11 = tc := M1.2.2.2.2.2.1
    refine S_aload_n (pc := 49) dX10_text_49 rfl ?_
    refine S_getR (pc := 50) dX10_text_50 fX10_33 (by assumption) rfl (by assumption) ?_
    refine S_aload_n (pc := 53) dX10_text_53 rfl ?_
    refine S_getI (pc := 54) dX10_text_54 fX10_79 (by assumption) rfl ?_
    rw [e1]
    refine S_aload_n (pc := 57) dX10_text_57 rfl ?_
    refine S_getI (pc := 58) dX10_text_58 fX10_165 (by assumption) rfl ?_
    rw [e2]
    refine S_iast (pc := 61) dX10_text_61 (by assumption) (by omega) ?_
    refine S_aload_n (pc := 62) dX10_text_62 rfl ?_
    refine G_iconst (pc := 63) dX10_text_63 ?_
    refine S_putI (pc := 64) dX10_text_64 fX10_165 (by assumption) rfl ⟨rfl, rfl⟩ ?_
    rw [show setF (setA (putA S 102 (seg (160 * tc) (160 * tc + tp) (fun j => S.2.1 104 (j - 160 * tc)) (S.2.1 102))) 103 tc tp) 96 14 0 = mtx S tc tp from rfl]
    refine S_aload_n (pc := 67) dX10_text_67 rfl ?_
    refine S_aload_n (pc := 68) dX10_text_68 rfl ?_
    refine S_getI (pc := 69) dX10_text_69 fX10_79 (by assumption) rfl ?_
    rw [e3]
    refine G_iconst (pc := 72) dX10_text_72 ?_
    refine S_callV (pc := 73) (ci := 10) (d2 := 46) (mc2 := 0) (ms2 := 0) (As := [_, _]) dX10_text_73 kX10_read lkX10_261 (by assumption) rfl rfl rfl (Nat.le_of_ble_eq_true rfl) ⟨by decide, by decide⟩ (by decide) ?_
    refine c_X10_read M1 (show MtE (mtx S tc tp) env from hE) (by omega) (by omega) eN mtB_mtx (fun kf S' v e r1 r2 => ?_) (fun l0 l1 l2 v S' e r1 r2 r3 => ?_)
    · show G _ _ _ _ _ _ _ _ _ _ _ _ _
      first | exact KF ht kf S' v e r1 r2 | exact KS ht _ S' v e r1 r2
    · show G _ _ _ _ _ _ _ _ _ _ _ _ _
      first | exact KF ht kf S' v e r1 r2 | exact KS ht _ S' v e r1 r2
  refine S_aload_n (pc := 0) dX10_text_0 rfl ?_
  refine S_getI (pc := 1) dX10_text_1 fX10_79 (by assumption) rfl ?_
  rw [e11]
  refine G_bipush (pc := 4) dX10_text_4 rfl ?_
  refine G_icmp_ne (pc := 6) 12 dX10_text_6 rfl (by omega) (fun c6 => ?_) (fun c6 => ?_)
  · skip
    refine G_iconst (pc := 12) dX10_text_12 ?_
    refine G_istore_n (pc := 13) (ls' := [(1, _), (0, _)]) dX10_text_13 (by decide) rfl ?_
    have := l_X10_text hM hV (by omega) rfl (K49 (by omega)) tp.toNat 0 (by omega) (Int.le_refl _)
    rw [Int.add_zero, seg_0, putA_same] at this
    exact this
  · skip
    refine G_bipush (pc := 9) dX10_text_9 rfl ?_
    refine G_iret (pc := 11) dX10_text_11 rfl (by decide) ?_
    exact h0 (by omega)
def mnor (S : SS) (v24 v25 v26 v27 v28 : Int) : SS := setF (setF (setF (setF (setF S 96 24 v24) 96 25 v25) 96 26 v26) 96 27 v27) 96 28 v28
theorem mnor_hp {g : GC} {sh : SH} {S : SS} {v24 v25 v26 v27 v28 : Int} (h96 : sh 96 = some (.inl 10)) (e24 : v24 = bw (S.1 96 24)) (e25 : v25 = bw (S.1 96 25)) (e26 : v26 = bw (S.1 96 26)) (e27 : v27 = bw (S.1 96 27)) (e28 : v28 = bw (S.1 96 28)) : hp g sh (mnor S v24 v25 v26 v27 v28) = hp g sh S := by
  have n1 : ∀ (T : SS) (f : Nat) (v : Int), (kds 10)[f]? = some 0 → v = bw (T.1 96 f) → hp g sh (setF T 96 f v) = hp g sh T := fun T f v hk hv => by rw [hv]; exact hp_nF h96 hk
  unfold mnor
  rw [n1 _ 28 v28 rfl (by rw [setF_ne (by decide), setF_ne (by decide), setF_ne (by decide), setF_ne (by decide)]; exact e28), n1 _ 27 v27 rfl (by rw [setF_ne (by decide), setF_ne (by decide), setF_ne (by decide)]; exact e27), n1 _ 26 v26 rfl (by rw [setF_ne (by decide), setF_ne (by decide)]; exact e26), n1 _ 25 v25 rfl (by rw [setF_ne (by decide)]; exact e25), n1 _ 24 v24 rfl e24]
theorem mnor_mtx {S : SS} {tc tp v24 v25 v26 v27 v28 : Int} : mtx (mnor S v24 v25 v26 v27 v28) tc tp = mnor (mtx S tc tp) v24 v25 v26 v27 v28 := by
  refine ss_ext (fun b k => ?_) (fun _ _ => rfl) (fun _ _ => rfl)
  show (setF (setF (setF (setF (setF (setF S 96 24 v24) 96 25 v25) 96 26 v26) 96 27 v27) 96 28 v28) 96 14 0).1 b k = (setF (setF (setF (setF (setF (setF S 96 14 0) 96 24 v24) 96 25 v25) 96 26 v26) 96 27 v27) 96 28 v28).1 b k
  by_cases h14 : b = 96 ∧ k = 14
  · obtain ⟨rfl, rfl⟩ := h14
    rw [setF_at, setF_ne (by decide), setF_ne (by decide), setF_ne (by decide), setF_ne (by decide), setF_ne (by decide), setF_at]
  · rw [setF_ne (by omega)]
    by_cases g28 : b = 96 ∧ k = 28
    · obtain ⟨rfl, rfl⟩ := g28
      rw [setF_at, setF_at]
    · rw [setF_ne (k := 28) (by omega), setF_ne (k := 28) (by omega)]
      by_cases g27 : b = 96 ∧ k = 27
      · obtain ⟨rfl, rfl⟩ := g27
        rw [setF_at, setF_at]
      · rw [setF_ne (k := 27) (by omega), setF_ne (k := 27) (by omega)]
        by_cases g26 : b = 96 ∧ k = 26
        · obtain ⟨rfl, rfl⟩ := g26
          rw [setF_at, setF_at]
        · rw [setF_ne (k := 26) (by omega), setF_ne (k := 26) (by omega)]
          by_cases g25 : b = 96 ∧ k = 25
          · obtain ⟨rfl, rfl⟩ := g25
            rw [setF_at, setF_at]
          · rw [setF_ne (k := 25) (by omega), setF_ne (k := 25) (by omega)]
            by_cases g24 : b = 96 ∧ k = 24
            · obtain ⟨rfl, rfl⟩ := g24
              rw [setF_at, setF_at]
            · rw [setF_ne (k := 24) (by omega), setF_ne (k := 24) (by omega), setF_ne (by omega)]
theorem mnor_scr {S : SS} {v24 v25 v26 v27 v28 : Int} : MScr S (mnor S v24 v25 v26 v27 v28) := MScr_F (MScr_F (MScr_F (MScr_F (MScr_F MScr_rf (by decide)) (by decide)) (by decide)) (by decide)) (by decide)
theorem mnor_E {S : SS} {v24 v25 v26 v27 v28 : Int} (b24 : -2147483648 ≤ v24 ∧ v24 ≤ 2147483647) (b25 : -2147483648 ≤ v25 ∧ v25 ≤ 2147483647) (b26 : -2147483648 ≤ v26 ∧ v26 ≤ 2147483647) (b27 : -2147483648 ≤ v27 ∧ v27 ≤ 2147483647) (b28 : -2147483648 ≤ v28 ∧ v28 ≤ 2147483647) : MtE (mnor S v24 v25 v26 v27 v28) (wenv v24 v25 v26 v27 v28) := by
  unfold mnor
  refine ⟨?_, ?_, ?_, ?_, ?_, ?_, fun i => ?_⟩
  · rw [setF_ne (by decide), setF_ne (by decide), setF_ne (by decide), setF_ne (by decide), setF_at]; rfl
  · rw [setF_ne (by decide), setF_ne (by decide), setF_ne (by decide), setF_at]; rfl
  · rfl
  · rw [setF_ne (by decide), setF_ne (by decide), setF_at]; rfl
  · rw [setF_ne (by decide), setF_at]; rfl
  · rw [setF_at]; rfl
  · unfold wenv
    repeat' split
    all_goals omega
theorem c_X10_text {g : GC} {sh : SH} {S : SS} {n : Nat} {tc ru tp : Int} {tape : Int → Int} {Q : Option Value → GA → Nat → Prop} (hM : MxW sh S tc ru) (hV : MqW sh S tp) (hta : S.2.1 104 = tape) (h0 : tc = 6 → Q (some (.int (iI (-4)))) (hp g sh S) n)
    (hF : tc < 6 → ∀ (kf : Nat) (S' : SS), ptx (tkk (bt tp tape)) = .inl kf → MScr (mtx S tc tp) S' → Q (some (.int (iI (-100 - tka tp (bt tp tape) kf)))) (hp g sh S') n)
    (hS : tc < 6 → ∀ (x : List Int × List Int × List Int) (S' : SS), ptx (tkk (bt tp tape)) = .inr x → MScr (mtx S tc tp) S' → Q (some (.int (iI tc))) (hp g sh (setF S' 96 11 (tc + 1))) n) :
    GCall g mX10_text 47 0 0 [gr g 96] (hp g sh S) n Q := by
  have h96 := hM.1
  obtain ⟨v24, e24, b24⟩ : ∃ v : Int, v = bw (S.1 96 24) ∧ (-2147483648 ≤ v ∧ v ≤ 2147483647) := ⟨_, rfl, bw_bd⟩
  obtain ⟨v25, e25, b25⟩ : ∃ v : Int, v = bw (S.1 96 25) ∧ (-2147483648 ≤ v ∧ v ≤ 2147483647) := ⟨_, rfl, bw_bd⟩
  obtain ⟨v26, e26, b26⟩ : ∃ v : Int, v = bw (S.1 96 26) ∧ (-2147483648 ≤ v ∧ v ≤ 2147483647) := ⟨_, rfl, bw_bd⟩
  obtain ⟨v27, e27, b27⟩ : ∃ v : Int, v = bw (S.1 96 27) ∧ (-2147483648 ≤ v ∧ v ≤ 2147483647) := ⟨_, rfl, bw_bd⟩
  obtain ⟨v28, e28, b28⟩ : ∃ v : Int, v = bw (S.1 96 28) ∧ (-2147483648 ≤ v ∧ v ≤ 2147483647) := ⟨_, rfl, bw_bd⟩
  have eh := mnor_hp (g := g) h96 e24 e25 e26 e27 e28
  have sc : MScr S (mnor S v24 v25 v26 v27 v28) := mnor_scr
  have scx : MScr (mtx S tc tp) (mtx (mnor S v24 v25 v26 v27 v28) tc tp) := by rw [mnor_mtx]; exact mnor_scr
  have hM2 : MxW sh (mnor S v24 v25 v26 v27 v28) tc ru := by
    obtain ⟨h96, q9, q10, h102, h103, e11, e12, htc, hru, r102, r103⟩ := hM
    exact ⟨h96, q9, q10, h102, h103, (sc.1 96 11 (by decide)).trans e11, (sc.1 96 12 (by decide)).trans e12, htc, hru, r102, r103⟩
  have hV2 : MqW sh (mnor S v24 v25 v26 v27 v28) tp := by
    obtain ⟨-, q13, h104, e14, htp, r104⟩ := hV
    exact ⟨h96, q13, h104, (sc.1 96 14 (by decide)).trans e14, htp, r104⟩
  have hta2 : (mnor S v24 v25 v26 v27 v28).2.1 104 = tape := (sc.2.2.1 104 (by decide)).trans hta
  rw [← eh]
  exact c_X10_text0 hM2 hV2 (mnor_E b24 b25 b26 b27 b28) hta2 (fun z => by rw [eh]; exact h0 z) (fun ht kf S' e r => hF ht kf S' e (MScr_tr scx r)) (fun ht x S' e r => hS ht x S' e (MScr_tr scx r))
set_option maxRecDepth 100000 in
set_option maxHeartbeats 4000000 in
theorem c_X10_force {g : GC} {sh : SH} {S : SS} {n : Nat} {tc ru t : Int} {Q : Option Value → GA → Nat → Prop} (hM : MxW sh S tc ru) (ht : -2147483648 ≤ t ∧ t ≤ 2147483647) (h0 : ¬ (0 ≤ t ∧ t < tc) → Q (some (.int (iI (-2)))) (hp g sh S) n) (h1 : (0 ≤ t ∧ t < tc) → Q (some (.int (iI ru))) (hp g sh (setF S 96 12 t)) n) : GCall g mX10_force 2 0 0 [gr g 96, .int (iI t)] (hp g sh S) n Q := by
  obtain ⟨h96, q9, q10, h102, h103, e11, e12, htc, hru, r102, r103⟩ := hM
  refine GCall.of (by decide) (Nat.le_of_ble_eq_true rfl) (ls := [(0, _), (1, _)]) rfl ?_
  refine G_iload_n (pc := 0) dX10_force_0 rfl ?_
  refine G_iconst (pc := 1) dX10_force_1 ?_
  refine S_aload_n (pc := 2) dX10_force_2 rfl ?_
  refine S_getI (pc := 3) dX10_force_3 fX10_79 (by assumption) rfl ?_
  rw [e11]
  refine G_iconst (pc := 6) dX10_force_6 ?_
  refine G_isub (pc := 7) dX10_force_7 ?_
  refine G_callS (pc := 8) (d2 := 1) (mc2 := 0) (ms2 := 0) (As := [_, _, _]) dX10_force_8 kX10_in lkX10_86 rfl rfl (Nat.le_of_ble_eq_true rfl) ⟨by decide, by decide⟩ (by decide) ?_
  refine c_X10_in (by omega) (fun w8 => ?_) (fun w8 => ?_)
  · show G _ _ _ _ _ _ _ _ _ _ _ _ _
    refine G_if_ne_t (pc := 11) 17 dX10_force_11 rfl (by decide) (by decide) ?_
    refine S_aload_n (pc := 17) dX10_force_17 rfl ?_
    refine S_getI (pc := 18) dX10_force_18 fX10_258 (by assumption) rfl ?_
    rw [e12]
    refine G_istore_n (pc := 21) (ls' := [(2, _), (0, _), (1, _)]) dX10_force_21 (by decide) rfl ?_
    refine S_aload_n (pc := 22) dX10_force_22 rfl ?_
    refine G_iload_n (pc := 23) dX10_force_23 rfl ?_
    refine S_putI (pc := 24) dX10_force_24 fX10_258 (by assumption) rfl ⟨rfl, rfl⟩ ?_
    refine G_iload_n (pc := 27) dX10_force_27 rfl ?_
    refine G_iret (pc := 28) dX10_force_28 rfl (by decide) ?_
    exact h1 (by omega)
  · show G _ _ _ _ _ _ _ _ _ _ _ _ _
    refine G_if_ne_f (pc := 11) 17 dX10_force_11 rfl (by decide) (by decide) ?_
    refine G_bipush (pc := 14) dX10_force_14 rfl ?_
    refine G_iret (pc := 16) dX10_force_16 rfl (by decide) ?_
    exact h0 (by omega)
