/-! PolyBench's constructor -/
theorem gsc_bd (i : Nat) (j : Int) (hi : i < 13) : 0 ≤ gsc i j ∧ gsc i j ≤ 127 := by
  by_cases c : 0 ≤ j ∧ j < (gStrLen.getD i 0 : Nat)
  · have h := gStr_sgn hi c
    unfold gsc
    exact h.2.2
  · have hl := (gStr_len hi).1
    unfold gsc
    by_cases d : j < 0
    · have e : j.toNat = 0 := by omega
      rw [e]
      have := (gStr_sgn (j := 0) hi)
      by_cases f : (0 : Int) < (gStrLen.getD i 0 : Nat)
      · exact (this ⟨Int.le_refl _, f⟩).2.2
      · rw [List.getD_eq_getElem?_getD, List.getElem?_eq_none (by omega)]
        decide
    · rw [List.getD_eq_getElem?_getD, List.getElem?_eq_none (by omega)]
      decide
def I9 (x : Int) (S : SS) : Prop := (∀ a k : Nat, a ≠ 43 → a ≠ 5 → a ≠ 72 → (a ≠ 0 ∨ k ≠ 10) → S.1 a k = (st9 x).1 a k) ∧ (∀ a : Nat, a ≠ 6 → a ≠ 7 → a ≠ 8 → a ≠ 73 → a ≠ 74 → S.2.1 a = (st9 x).2.1 a) ∧ (∀ (a : Nat) (j : Int), (a ≠ 43 ∨ j ≠ 1) → S.2.2 a j = (st9 x).2.2 a j) ∧ S.1 0 10 = 1 ∧ TaW (shT 96) S 0 ∧ TxW (shT 96) S 72 ∧ TxP S 72 X0T
theorem st9_tape (x : Int) : TaW (shT 96) (st9 x) 0 := ⟨rfl, rfl, rfl, rfl, rfl, rfl, rfl, rfl, by decide, fun i => show -128 ≤ (0 : Int) ∧ (0 : Int) ≤ 127 by decide⟩
theorem st9_text (x : Int) : TxW (shT 96) (st9 x) 72 := ⟨rfl, rfl, rfl, rfl, rfl, rfl, rfl, show 0 ≤ (0 : Int) ∧ (0 : Int) ≤ 160 by decide, show 0 ≤ (0 : Int) ∧ (0 : Int) ≤ 3 by decide, show 0 ≤ (0 : Int) ∧ (0 : Int) ≤ 160 by decide, fun i => show 0 ≤ (0 : Int) ∧ (0 : Int) ≤ 160 by decide, fun i => show -2147483648 ≤ (0 : Int) ∧ (0 : Int) ≤ 2147483647 by decide, fun i => show -2147483648 ≤ (0 : Int) ∧ (0 : Int) ≤ 2147483647 by decide⟩
set_option maxRecDepth 100000 in
set_option maxHeartbeats 4000000 in
theorem c_X9_init {g : GC} {x : Int} {Q : Option Value → GA → Nat → Prop} (hx : -2147483648 ≤ x ∧ x ≤ 2147483647) (hq : ∀ S : SS, I9 x S → Fr S 96 → Q none (hp g (shT 96) S) 96) : GCall g mX9_init 47 95 4184 [gr g 0, .int (iI x)] (hp g (shT 1) Z0) 1 Q := by
  refine i_X9_init hx ?_
  have W0' := st9_tape x
  have hFr := st9_fr x
  have e72 : ∀ k : Nat, (st9 x).1 72 k = 0 := fun k => rfl
  have eA : ∀ a : Nat, (st9 x).2.1 a = fun _ => 0 := fun a => rfl
  have ep0 : (st9 x).2.2 0 7 = some 5 := rfl
  have ep1 : (st9 x).2.2 0 8 = some 43 := rfl
  have ep2 : (st9 x).2.2 0 9 = some 9 := rfl
  have ep3 : (st9 x).2.2 9 0 = some 72 := rfl
  have ep4 : (st9 x).2.2 43 0 = some 5 := rfl
  have hT := st9_text x
  generalize hst : st9 x = S0 at W0' hFr e72 eA ep0 ep1 ep2 ep3 ep4 hT ⊢
  have hbg : ∀ j : Int, -128 ≤ gsc 0 (j - 0) ∧ gsc 0 (j - 0) ≤ 127 := fun j => by have := gsc_bd 0 (j - 0) (by decide); omega
  have W1 : TaW (shT 96) (setF (putA S0 6 (seg 0 (0 + 46) (fun j => gsc 0 (j - 0)) (S0.2.1 6))) 5 1 (0 + 46)) (0 + 46) := TaW_add W0' (by decide) hbg
  have eB : ctB (setF (putA S0 6 (seg 0 (0 + 46) (fun j => gsc 0 (j - 0)) (S0.2.1 6))) 5 1 (0 + 46)) (0 + 46) = B0c := by
    funext i
    unfold ctB B0c bt
    by_cases c : 0 ≤ i ∧ i < 46
    · rw [if_pos (show 0 ≤ i ∧ i < 0 + 46 by omega), if_pos c]
      show ((putA S0 6 _).2.1 6 i) % 256 = _
      rw [putA_at]
      unfold seg
      rw [if_pos (by omega)]
      show gsc 0 (i - 0) % 256 = gsc 0 i % 256
      rw [show i - 0 = i by omega]
    · rw [if_neg (show ¬ (0 ≤ i ∧ i < 0 + 46) by omega), if_neg c]
  generalize hS1 : (setF (putA S0 6 (seg 0 (0 + 46) (fun j => gsc 0 (j - 0)) (S0.2.1 6))) 5 1 (0 + 46)) = S1 at W1 eB
  have f1 : ∀ a k : Nat, a ≠ 5 → S1.1 a k = S0.1 a k := fun a k q => by rw [← hS1]; exact setF_ne (Or.inl q)
  have a1 : ∀ a : Nat, a ≠ 6 → S1.2.1 a = S0.2.1 a := fun a q => by rw [← hS1]; exact putA_ne q
  have p1 : S1.2.2 = S0.2.2 := by rw [← hS1]; rfl
  have q7 : S1.2.2 0 7 = some 5 := by rw [p1]; exact ep0
  have hB := ctB_is W1
  rw [eB] at hB
  have K2 : ∀ S2 : SS, TkR S1 S2 → TkW S2 (0 + 46) B0c → G g mX9_init 47 95 4184 230 [(0, gr g 0)] [] (hp g (shT 96) S2) 96 95 4184 Q := by
    intro S2 r1 r2
    have W2 := TaW_R r1 W1
    have u8 : S2.2.2 0 8 = some 43 := by rw [r1.2.2, p1]; exact ep1
    have u9 : S2.2.2 0 9 = some 9 := by rw [r1.2.2, p1]; exact ep2
    have u90 : S2.2.2 9 0 = some 72 := by rw [r1.2.2, p1]; exact ep3
    have u43 : S2.2.2 43 0 = some 5 := by rw [r1.2.2, p1]; exact ep4
    have eF : ∀ k : Nat, S2.1 72 k = S0.1 72 k := fun k => (r1.1 72 k (by omega)).trans (f1 72 k (by decide))
    have eP : S2.2.2 = S0.2.2 := r1.2.2.trans p1
    have eA2 : ∀ a : Nat, a ≠ 6 → a ≠ 7 → a ≠ 8 → S2.2.1 a = S0.2.1 a := fun a q q7 q8 => (r1.2.1 a ⟨q7, q8⟩).trans (a1 a q)
    have T2 : TxW (shT 96) S2 72 := by
      obtain ⟨hx, h1, h2, h3, p0, p2, p4, hsz, hpa, htp, hen, hst, hsk⟩ := hT
      exact ⟨hx, h1, h2, h3, by rw [eP]; exact p0, by rw [eP]; exact p2, by rw [eP]; exact p4, by rw [eF]; exact hsz, by rw [eF]; exact hpa, by rw [eF]; exact htp, by rw [eA2 _ (by decide) (by decide) (by decide)]; exact hen, by rw [eA2 _ (by decide) (by decide) (by decide)]; exact hst, by rw [eA2 _ (by decide) (by decide) (by decide)]; exact hsk⟩
    have K3 : ∀ S3 : SS, GxR 72 S2 S3 → GcX (shT 96) S3 (0 + 46) B0c 72 → TxP S3 72 X0T → G g mX9_init 47 95 4184 243 [(0, gr g 0)] [.int (iI (-1))] (hp g (shT 96) S3) 96 95 4184 Q := by
      intro S3 v1 v2 v3
      have W3 := v2.1
      have T3 := GcX_tx v2
      have u7 : S3.2.2 0 7 = some 5 := (v1.2.2 0 7 (by decide)).trans (by rw [eP]; exact ep0)
      have gF : ∀ a k : Nat, a ≠ 43 → a ≠ 5 → a ≠ 72 → (a ≠ 0 ∨ k ≠ 10) → (setF (setF S3 5 1 0) 0 10 1).1 a k = S0.1 a k := fun a k q1 q2 q3 q4 => (setF_ne (by omega)).trans ((setF_ne (by omega)).trans ((v1.1 a k (by omega) (by omega)).trans ((r1.1 a k (by omega)).trans (f1 a k q2))))
      have gA : ∀ a : Nat, a ≠ 6 → a ≠ 7 → a ≠ 8 → a ≠ 73 → a ≠ 74 → (setF (setF S3 5 1 0) 0 10 1).2.1 a = S0.2.1 a := fun a q1 q2 q3 q4 q5 => (v1.2.1 a q4 q5).trans (eA2 a q1 q2 q3)
      have gP : ∀ (a : Nat) (j : Int), (a ≠ 43 ∨ j ≠ 1) → (setF (setF S3 5 1 0) 0 10 1).2.2 a j = S0.2.2 a j := fun a j q => (v1.2.2 a j q).trans (by rw [eP])
      have gT : TaW (shT 96) (setF (setF S3 5 1 0) 0 10 1) 0 := by
        obtain ⟨h5, q0, q2, q3, h6, h7, h8, e1, hN, hby⟩ := W3
        exact ⟨h5, q0, q2, q3, h6, h7, h8, (setF_ne (by decide)).trans setF_at, by decide, hby⟩
      have gE : ∀ k : Nat, (setF (setF S3 5 1 0) 0 10 1).1 72 k = S3.1 72 k := fun k => (setF_ne (by omega)).trans (setF_ne (by omega))
      have gX : TxW (shT 96) (setF (setF S3 5 1 0) 0 10 1) 72 := by
        obtain ⟨hx, h1, h2, h3, p0, p2, p4, hsz, hpa, htp, hen, hst, hsk⟩ := T3
        exact ⟨hx, h1, h2, h3, p0, p2, p4, by rw [gE]; exact hsz, by rw [gE]; exact hpa, by rw [gE]; exact htp, hen, hst, hsk⟩
      have gQ : TxP (setF (setF S3 5 1 0) 0 10 1) 72 X0T := by
        obtain ⟨z1, z3, ze0, ze1, ze2, zl⟩ := v3
        exact ⟨by rw [gE]; exact z1, by rw [gE]; exact z3, ze0, ze1, ze2, zl⟩
      have gFr : Fr (setF (setF S3 5 1 0) 0 10 1) 96 := fun a ha => ⟨fun k => (gF a k (by omega) (by omega) (by omega) (by omega)).trans ((hFr a ha).1 k), (gA a (by omega) (by omega) (by omega) (by omega) (by omega)).trans (hFr a ha).2.1, by
        funext j
        rw [gP a j (by omega)]; exact congrFun (hFr a ha).2.2 j⟩
      have hqq := hq (setF (setF S3 5 1 0) 0 10 1) (by
        unfold I9
        rw [hst]
        exact ⟨gF, gA, gP, setF_at, gT, gX, gQ⟩) gFr
      refine G_pop (pc := 243) dX9_init_243 rfl ?_
      refine S_aload_n (pc := 244) dX9_init_244 rfl ?_
      refine S_getR (pc := 245) dX9_init_245 fX9_31 (by first | rfl | exact W3.1) rfl (by assumption) ?_
      refine S_callV (pc := 248) (ci := 6) (d2 := 1) (mc2 := 0) (ms2 := 0) (As := []) dX9_init_248 kX6_wipe lkX9_100 (by first | rfl | exact W3.1) rfl rfl rfl (Nat.le_of_ble_eq_true rfl) ⟨by decide, by decide⟩ (by decide) ?_
      refine c_X6_wipe W3 ?_
      show G _ _ _ _ _ _ _ _ _ _ _ _ _
      refine S_aload_n (pc := 251) dX9_init_251 rfl ?_
      refine G_iconst (pc := 252) dX9_init_252 ?_
      refine S_putI (pc := 253) dX9_init_253 fX9_103 (by first | rfl | exact W3.1) rfl ⟨rfl, rfl⟩ ?_
      refine G_vret (pc := 256) dX9_init_256 rfl (by decide) ?_
      exact hqq
    refine S_aload_n (pc := 230) dX9_init_230 rfl ?_
    refine S_getR (pc := 231) dX9_init_231 fX9_81 rfl rfl (by assumption) ?_
    refine S_aload_n (pc := 234) dX9_init_234 rfl ?_
    refine S_getR (pc := 235) dX9_init_235 fX9_37 rfl rfl (by assumption) ?_
    refine G_iconst (pc := 238) dX9_init_238 ?_
    refine S_aald (pc := 239) dX9_init_239 rfl rfl (by omega) (by assumption) ?_
    refine S_callV (pc := 240) (ci := 1) (d2 := 46) (mc2 := 0) (ms2 := 0) (As := [_]) dX9_init_240 kX1_readInto lkX9_96 rfl rfl rfl rfl (Nat.le_of_ble_eq_true rfl) ⟨by decide, by decide⟩ (by decide) ?_
    refine c_X1_readInto W2 r2 hB rfl u43 (by decide) T2 (fun kf S3 e v1 v2 => ?_) (fun X S3 e v1 v2 v3 => ?_)
    · show G _ _ _ _ _ _ _ _ _ _ _ _ _
      first
        | (rw [ptx_B0c] at e; cases e; done)
        | (rw [ptx_B0c] at e
           cases e
           exact K3 S3 v1 v2 v3)
    · show G _ _ _ _ _ _ _ _ _ _ _ _ _
      first
        | (rw [ptx_B0c] at e; cases e; done)
        | (rw [ptx_B0c] at e
           cases e
           exact K3 S3 v1 v2 v3)
  refine S_aload_n (pc := 214) dX9_init_214 rfl ?_
  refine S_getR (pc := 215) dX9_init_215 fX9_31 rfl rfl ep0 ?_
  refine G_ldcS (pc := 218) (i := 0) dX9_init_218 rfl ?_
  refine S_callV (pc := 220) (ci := 6) (d2 := 5) (mc2 := 0) (ms2 := 0) (As := [_]) dX9_init_220 kX6_write lkX9_89 rfl rfl rfl rfl (Nat.le_of_ble_eq_true rfl) ⟨by decide, by decide⟩ (by decide) ?_
  refine c_X6_write (i := 0) (by decide) W0' (by decide) ?_
  rw [show (setF (putA S0 6 (seg 0 (0 + ((gStrLen.getD 0 0 : Nat) : Int)) (fun j => gsc 0 (j - 0)) (S0.2.1 6))) 5 1 (0 + ((gStrLen.getD 0 0 : Nat) : Int))) = S1 from hS1]
  show G _ _ _ _ _ _ _ _ _ _ _ _ _
  refine S_aload_n (pc := 223) dX9_init_223 rfl ?_
  refine S_getR (pc := 224) dX9_init_224 fX9_31 rfl rfl q7 ?_
  refine S_callV (pc := 227) (ci := 6) (d2 := 9) (mc2 := 0) (ms2 := 0) (As := []) dX9_init_227 kX6_cutUp lkX9_93 rfl rfl rfl rfl (Nat.le_of_ble_eq_true rfl) ⟨by decide, by decide⟩ (by decide) ?_
  refine c_X6_cutUp eB W1 (fun S2 r1 r2 => ?_)
  · show G _ _ _ _ _ _ _ _ _ _ _ _ _
    exact K2 S2 r1 r2
