/-! the Model: look, sheets' small methods -/
theorem mg_putA {S : SS} {b : Nat} {xs : Int → Int} {r : Int} (h : b ≠ 97) : mg (putA S b xs) r = mg S r := by
  unfold mg; rw [putA_ne (Ne.symm h)]
theorem MdW_putA {p : Int} {sh : SH} {S : SS} {b : Nat} {xs : Int → Int} (hW : MdW p sh S) (h : b ≠ 97) : MdW p sh (putA S b xs) := by
  obtain ⟨hP, h96, hp1, p2, h97, hred⟩ := hW
  exact ⟨hP, h96, hp1, p2, h97, by rw [putA_ne (Ne.symm h)]; exact hred⟩
set_option maxRecDepth 100000 in
set_option maxHeartbeats 4000000 in
theorem l_X10_look {g : GC} {p m a : Int} {sh : SH} {S : SS} {n : Nat} {Q : Option Value → GA → Nat → Prop} (hW : MdW p sh S) (hV : MpW p sh S m) (ha : 0 ≤ a ∧ a < 8) (hq : Q (some (.int (iI m))) (hp g sh (putA S 106 (mix (fun i => ev (mg S a) (S.2.1 105 i) 80 % p) (S.2.1 106) m))) n) :
    ∀ (k : Nat) (t : Int), t + k = m → 0 ≤ t → G g mX10_look 3 0 0 12 [(2, .int (iI t)), (0, gr g 96), (1, .int (iI a))] [] (hp g sh (putA S 106 (mix (fun i => ev (mg S a) (S.2.1 105 i) 80 % p) (S.2.1 106) t))) n 0 0 Q := by
  intro k
  have hW' := hW
  obtain ⟨hP, h96, hp1, p2, h97, hred⟩ := hW'
  have hV' := hV
  obtain ⟨q30, q31, h105, h106, hm, hmb, r105, r106⟩ := hV'
  induction k with
  | zero =>
    intro t ht h0
    have e : (putA S 106 (mix (fun i => ev (mg S a) (S.2.1 105 i) 80 % p) (S.2.1 106) t)).1 96 29 = m := hm
    refine G_iload_n (pc := 12) dX10_look_12 rfl ?_
    refine S_aload_n (pc := 13) dX10_look_13 rfl ?_
    refine S_getI (pc := 14) dX10_look_14 fX10_284 (by assumption) rfl ?_
    rw [e]
    refine G_icmp_ge_t (pc := 17) 43 dX10_look_17 rfl (by omega) (by omega) ?_
    refine S_aload_n (pc := 43) dX10_look_43 rfl ?_
    refine S_getI (pc := 44) dX10_look_44 fX10_284 (by assumption) rfl ?_
    rw [e]
    refine G_iret (pc := 47) dX10_look_47 rfl (by decide) ?_
    rw [show t = m by omega]
    exact hq
  | succ k ih =>
    intro t ht h0
    have e : (putA S 106 (mix (fun i => ev (mg S a) (S.2.1 105 i) 80 % p) (S.2.1 106) t)).1 96 29 = m := hm
    have e5 : (putA S 106 (mix (fun i => ev (mg S a) (S.2.1 105 i) 80 % p) (S.2.1 106) t)).2.1 105 t = S.2.1 105 t := by rw [putA_ne (by decide)]
    have W2 : MdW p sh (putA S 106 (mix (fun i => ev (mg S a) (S.2.1 105 i) 80 % p) (S.2.1 106) t)) := MdW_putA hW (by decide)
    have hx := r105 t
    refine G_iload_n (pc := 12) dX10_look_12 rfl ?_
    refine S_aload_n (pc := 13) dX10_look_13 rfl ?_
    refine S_getI (pc := 14) dX10_look_14 fX10_284 (by assumption) rfl ?_
    rw [e]
    refine G_icmp_ge_f (pc := 17) 43 dX10_look_17 rfl (by omega) (by omega) ?_
    refine S_aload_n (pc := 20) dX10_look_20 rfl ?_
    refine S_getR (pc := 21) dX10_look_21 fX10_42 (by assumption) rfl (by assumption) ?_
    refine G_iload_n (pc := 24) dX10_look_24 rfl ?_
    refine S_aload_n (pc := 25) dX10_look_25 rfl ?_
    refine G_iload_n (pc := 26) dX10_look_26 rfl ?_
    refine S_aload_n (pc := 27) dX10_look_27 rfl ?_
    refine S_getR (pc := 28) dX10_look_28 fX10_39 (by assumption) rfl (by assumption) ?_
    refine G_iload_n (pc := 31) dX10_look_31 rfl ?_
    refine S_iald (pc := 32) dX10_look_32 (by assumption) (by omega) ?_
    rw [e5]
    refine S_callV (pc := 33) (ci := 10) (d2 := 2) (mc2 := 0) (ms2 := 0) (As := [_, _]) dX10_look_33 kX10_worth lkX10_281 (by assumption) rfl rfl rfl (Nat.le_of_ble_eq_true rfl) ⟨by decide, by decide⟩ (by decide) ?_
    refine c_X10_worth W2 (by omega) hx ?_
    rw [mg_putA (by decide)]
    show G _ _ _ _ _ _ _ _ _ _ _ _ _
    refine S_iast (pc := 36) dX10_look_36 (by assumption) (by omega) ?_
    refine G_iinc (pc := 37) (ls' := [(2, _), (0, _), (1, _)]) dX10_look_37 rfl (by decide) rfl ?_
    refine G_goto (pc := 40) 12 dX10_look_40 rfl ?_
    rw [setA_putA, mix_S (ys := fun i => ev (mg S a) (S.2.1 105 i) 80 % p) h0]
    exact ih (t + 1) (by omega) (by omega)
set_option maxRecDepth 100000 in
set_option maxHeartbeats 4000000 in
theorem c_X10_look {g : GC} {p m a : Int} {sh : SH} {S : SS} {n : Nat} {Q : Option Value → GA → Nat → Prop} (hW : MdW p sh S) (hV : MpW p sh S m) (ha : -2147483648 ≤ a ∧ a ≤ 2147483647) (h0 : ¬ (0 ≤ a ∧ a < 8) → Q (some (.int (iI (-2)))) (hp g sh S) n) (hq : (0 ≤ a ∧ a < 8) → Q (some (.int (iI m))) (hp g sh (putA S 106 (mix (fun i => ev (mg S a) (S.2.1 105 i) 80 % p) (S.2.1 106) m))) n) : GCall g mX10_look 3 0 0 [gr g 96, .int (iI a)] (hp g sh S) n Q := by
  have hmb := hV.2.2.2.2.2.1
  have h96 := hW.2.1
  refine GCall.of (by decide) (Nat.le_of_ble_eq_true rfl) (ls := [(0, _), (1, _)]) rfl ?_
  refine G_iload_n (pc := 0) dX10_look_0 rfl ?_
  refine G_callS (pc := 1) (d2 := 2) (mc2 := 0) (ms2 := 0) (As := [_]) dX10_look_1 kX10_isPoly lkX10_98 rfl rfl (Nat.le_of_ble_eq_true rfl) ⟨by decide, by decide⟩ (by decide) ?_
  refine c_X10_isPoly (by omega) (fun w1 => ?_) (fun w1 => ?_)
  · show G _ _ _ _ _ _ _ _ _ _ _ _ _
    refine G_if_ne_t (pc := 4) 10 dX10_look_4 rfl (by decide) (by decide) ?_
    refine G_iconst (pc := 10) dX10_look_10 ?_
    refine G_istore_n (pc := 11) (ls' := [(2, _), (0, _), (1, _)]) dX10_look_11 (by decide) rfl ?_
    have := l_X10_look hW hV (by omega) (hq (by omega)) m.toNat 0 (by omega) (by omega)
    rw [mix_0, putA_same] at this
    exact this
  · show G _ _ _ _ _ _ _ _ _ _ _ _ _
    refine G_if_ne_f (pc := 4) 10 dX10_look_4 rfl (by decide) (by decide) ?_
    refine G_bipush (pc := 7) dX10_look_7 rfl ?_
    refine G_iret (pc := 9) dX10_look_9 rfl (by decide) ?_
    exact h0 (by omega)
