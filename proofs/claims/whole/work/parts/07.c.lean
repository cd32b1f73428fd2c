/-! rows of G: calls, ends, makings, switches -/
/-- what a call's link says: invokevirtual of a method of the class that is named -/
def GCode (y : GM) (np : Nat) : Prop := Cond.code y.1 y.2.1 y.2.2.1 y.2.2.2 ∈ W0 ∧ Cond.initialized y.1.cls ∈ W0 ∧ y.1.cls ≠ "java/lang/invoke/MethodHandle" ∧ y.1.cls ≠ "java/lang/invoke/VarHandle" ∧ (parseMethodDescriptor y.1.desc).map (fun d => d.parameters.length) = some np
def GVirt (own : String) (ix : Nat) (y : GM) : Prop := Cond.methodLink own ix y.1 ∈ W0 ∧ Cond.instanceMethod y.1 ∈ W0 ∧ Cond.selects y.1.cls y.1 y.1 ∈ W0
def GStat (own : String) (ix : Nat) (y : GM) : Prop := Cond.methodLink own ix y.1 ∈ W0 ∧ Cond.static y.1 ∈ W0
def GSpec (own : String) (ix : Nat) (y : GM) : Prop := Cond.methodLink own ix y.1 ∈ W0 ∧ Cond.instanceMethod y.1 ∈ W0 ∧ y.1.name = "<init>" ∧ y.2.2.2 = none
def GSpecN (own : String) (ix : Nat) (y : GM) : Prop := (∃ host, Cond.methodLinkNest own ix y.1 host ∈ gNest) ∧ Cond.instanceMethod y.1 ∈ W0 ∧ y.1.name = "<init>" ∧ y.2.2.2 = none
def GStatN (own : String) (ix : Nat) (y : GM) : Prop := (∃ host, Cond.methodLinkNest own ix y.1 host ∈ gNest) ∧ Cond.static y.1 ∈ W0
theorem gws_good {y : GM} (h : Cond.code y.1 y.2.1 y.2.2.1 y.2.2.2 ∈ W0) : GoodIn W0 (gws y) := fun w hw => by
  have h1 : w ∈ W0 := (List.mem_cons.mp hw).elim (fun e => e ▸ h) id
  exact ⟨h1, good_of_word (W0_good h1)⟩
section CROWS
variable {g : GC} {y : GM} {d mc ms pc : Nat} {ls : List (Nat × Value)} {st : List Value} {h : GA} {n k u : Nat} {Q : Option Value → GA → Nat → Prop}
theorem GBlind {args : List Value} : FrameBlind (va_Pc args (fun U => Rp g h n U.heap ∧ GK g U)) := fun _ _ _ _ q => ⟨q.1, q.2.1, q.2.2.calling⟩
theorem G_run {p : Program} {e : Env} {s : State} {m : MethodId} {args a : Array Value} {below : List Frame} {meth : Method} {c : Code} {H : Heap} {locs : List Loc} {la : Array Slot} {mc2 ms2 : Nat} {rest st0 : List Value}
    (X : GX g y p s m args meth c) (hL : ∀ q ∈ locs, gB g ≤ q.base) (hl : lv_has la y.2.2.1 ls)
    (hr : va_Run p (gL g) e (grm d mc ms) s m args below meth c H locs k u mc2 ms2 (F0 m pc la st0) rest (gQ g (fun v h' n' => G g y d mc ms (pc + 3) ls (v.toList ++ rest) h' n' (k + mc2) (u + ms2) Q) a) (fun q => gB g ≤ q)) :
    W p (gL g) e (grm d mc ms) s m args below meth c H locs k u (MQ below (gQ g Q) args s mc ms (fun q => gB g ≤ q)) (F0 m pc la st0) := by
  intro T hT XX
  obtain ⟨v, st₀, t, T', L, h0, X', hL', e1, e2, ⟨v', h', n', hv, hR', hq⟩, st'⟩ := hr T hT XX
  cases hv
  have hR2 : Rp g h' n' T'.heap := by rw [e1]; exact hR'
  obtain ⟨t2, a1, b1⟩ := hq p e s m args below meth c T'.heap (locs ++ L) la X hR2 (fun q hq => (List.mem_append.mp hq).elim (hL q) (hL' q)) hl T' rfl X'
  exact ⟨t2, st' t2 a1, b1⟩
theorem G_roomOk {d d2 : Nat} {y2 : GM} (hd : d2 + 1 ≤ d ∧ y2.2.2.1 ≤ 41) {a b a2 b2 : Nat} : (grm d2 a2 b2).frames + 1 ≤ (grm d a b).frames ∧ 8 + (y2.2.2.1 + 11) + (grm d2 a2 b2).locals ≤ (grm d a b).locals := by
  unfold grm
  dsimp only
  omega
theorem G_callV {y2 : GM} {ix np d2 mc2 ms2 b ci : Nat} {fs As rest : List Value} {T : u_T} {N : Nat} (hd : decode y.2.1 pc = .ok (.invokevirtual ix, 3)) (hC : GCode y2 np) (hV : GVirt y.1.cls ix y2) (hb : h b = some (gO ci fs)) (hc : vwCl[ci]? = some (y2.1.cls, T, N)) (hnp : As.length = np) (hst : st = As.reverse ++ gr g b :: rest)
    (hrest : (rest.map fun v => v.category).sum ≤ 8) (hdp : d2 + 1 ≤ d ∧ y2.2.2.1 ≤ 41) (hcs : k + mc2 ≤ mc ∧ u + ms2 ≤ ms)
    (kk : GCall g y2 d2 mc2 ms2 (gr g b :: As) h n (fun v h' n' => G g y d mc ms (pc + 3) ls (v.toList ++ rest) h' n' (k + mc2) (u + ms2) Q)) : G g y d mc ms pc ls st h n k u Q := by
  intro p e s m args below meth c H locs la X hR hL hl
  subst hst
  have hts := X.2.2.2.2.2.1
  have hK := X.2.2.2.2.2.2.2.2
  refine G_run X hL hl (va_runV (C := y2.1.cls) (Ts := W0) (b := gB g + b) (As := As) ⟨X.1, X.2.1, X.2.2.1, X.2.2.2.2.2.2.1, hts⟩ kk ⟨callB_of np hts (gws_good hC.1) rfl rfl rfl (hts _ hC.2.1) (hts _ hV.1) hC.2.2 (G_roomOk hdp), hts _ hV.2.1, hts _ hV.2.2⟩ ⟨GBlind, va_recv (q0 := 0) (fs := fs) hK.1 (hR.P hb) hc rfl, fun U hU hW => ⟨rfl, by rw [hU]; exact hR, hK.warm hW (by rw [hU, hR.1]; exact Nat.le_add_right _ _)⟩⟩ rfl hnp (hl.1) rfl (lv_room hrest) hd hcs)
theorem G_callS {y2 : GM} {ix np d2 mc2 ms2 : Nat} {As rest : List Value} (hd : decode y.2.1 pc = .ok (.invokestatic ix, 3)) (hC : GCode y2 np) (hV : GStat y.1.cls ix y2) (hnp : As.length = np) (hst : st = As.reverse ++ rest)
    (hrest : (rest.map fun v => v.category).sum ≤ 8) (hdp : d2 + 1 ≤ d ∧ y2.2.2.1 ≤ 41) (hcs : k + mc2 ≤ mc ∧ u + ms2 ≤ ms)
    (kk : GCall g y2 d2 mc2 ms2 As h n (fun v h' n' => G g y d mc ms (pc + 3) ls (v.toList ++ rest) h' n' (k + mc2) (u + ms2) Q)) : G g y d mc ms pc ls st h n k u Q := by
  intro p e s m args below meth c H locs la X hR hL hl
  subst hst
  have hts := X.2.2.2.2.2.1
  have hK := X.2.2.2.2.2.2.2.2
  refine G_run X hL hl (va_runS (Ts := W0) (As := As) ⟨X.1, X.2.1, X.2.2.1, X.2.2.2.2.2.2.1, hts⟩ kk ⟨callB_of np hts (gws_good hC.1) rfl rfl rfl (hts _ hC.2.1) (hts _ hV.1) hC.2.2 (G_roomOk hdp), hts _ hV.2⟩ ⟨GBlind, fun U hU hW => ⟨rfl, by rw [hU]; exact hR, hK.warm hW (by rw [hU, hR.1]; exact Nat.le_add_right _ _)⟩⟩ rfl hnp (hl.1) rfl (lv_room hrest) hd hcs)
theorem G_callI {y2 : GM} {ix np d2 mc2 ms2 b : Nat} {As rest : List Value} (hd : decode y.2.1 pc = .ok (.invokespecial ix, 3)) (hC : GCode y2 np) (hV : GSpec y.1.cls ix y2) (hnp : As.length = np) (hst : st = As.reverse ++ gr g b :: rest)
    (hrest : (rest.map fun v => v.category).sum ≤ 8) (hdp : d2 + 1 ≤ d ∧ y2.2.2.1 ≤ 41) (hcs : k + mc2 ≤ mc ∧ u + ms2 ≤ ms)
    (kk : GCall g y2 d2 mc2 ms2 (gr g b :: As) h n (fun v h' n' => G g y d mc ms (pc + 3) ls (v.toList ++ rest) h' n' (k + mc2) (u + ms2) Q)) : G g y d mc ms pc ls st h n k u Q := by
  intro p e s m args below meth c H locs la X hR hL hl
  subst hst
  have hts := X.2.2.2.2.2.1
  have hK := X.2.2.2.2.2.2.2.2
  have hC1 := hC.1
  have hgood := gws_good hC1
  obtain ⟨v1, v2, v3, v4⟩ := hV
  rw [v4] at hC1
  refine G_run X hL hl (va_runI (Ts := W0) (b := gB g + b) (As := As) (maxL := y2.2.2.1) (bytes := y2.2.1) ⟨X.1, X.2.1, X.2.2.1, X.2.2.2.2.2.2.1, hts⟩ kk ⟨callB_of (ws' := W0) np hts hgood (by unfold gws; rw [v4]) rfl rfl (hts _ hC.2.1) (hts _ v1) hC.2.2 (G_roomOk hdp), v3, hts _ v2⟩ ⟨GBlind, fun U hU hW => ⟨rfl, by rw [hU]; exact hR, hK.warm hW (by rw [hU, hR.1]; exact Nat.le_add_right _ _)⟩⟩ rfl hnp (hl.1) rfl (lv_room hrest) hd hcs)
theorem G_callSN {y2 : GM} {ix np d2 mc2 ms2 : Nat} {As rest : List Value} (hd : decode y.2.1 pc = .ok (.invokestatic ix, 3)) (hC : GCode y2 np) (hV : GStatN y.1.cls ix y2) (hnp : As.length = np) (hst : st = As.reverse ++ rest)
    (hrest : (rest.map fun v => v.category).sum ≤ 8) (hdp : d2 + 1 ≤ d ∧ y2.2.2.1 ≤ 41) (hcs : k + mc2 ≤ mc ∧ u + ms2 ≤ ms)
    (kk : GCall g y2 d2 mc2 ms2 As h n (fun v h' n' => G g y d mc ms (pc + 3) ls (v.toList ++ rest) h' n' (k + mc2) (u + ms2) Q)) : G g y d mc ms pc ls st h n k u Q := by
  intro p e s m args below meth c H locs la X hR hL hl
  subst hst
  have hts := X.2.2.2.2.2.1
  have hK := X.2.2.2.2.2.2.2.2
  obtain ⟨⟨host, v1⟩, v2⟩ := hV
  refine G_run X hL hl (va_runSN (host := host) (Ts := W0) (As := As) ⟨X.1, X.2.1, X.2.2.1, X.2.2.2.2.2.2.1, hts⟩ kk ⟨va_cnB (ws' := W0) np hts (gws_good hC.1) rfl rfl rfl (hK.2.1 _ v1) (hts _ hC.2.1) hC.2.2 (G_roomOk hdp), hts _ v2, trivial⟩ ⟨GBlind, fun U hU hW => ⟨rfl, by rw [hU]; exact hR, hK.warm hW (by rw [hU, hR.1]; exact Nat.le_add_right _ _)⟩⟩ rfl hnp (hl.1) rfl (lv_room hrest) hd hcs)
theorem G_callIN {y2 : GM} {ix np d2 mc2 ms2 b : Nat} {As rest : List Value} (hd : decode y.2.1 pc = .ok (.invokespecial ix, 3)) (hC : GCode y2 np) (hV : GSpecN y.1.cls ix y2) (hnp : As.length = np) (hst : st = As.reverse ++ gr g b :: rest)
    (hrest : (rest.map fun v => v.category).sum ≤ 8) (hdp : d2 + 1 ≤ d ∧ y2.2.2.1 ≤ 41) (hcs : k + mc2 ≤ mc ∧ u + ms2 ≤ ms)
    (kk : GCall g y2 d2 mc2 ms2 (gr g b :: As) h n (fun v h' n' => G g y d mc ms (pc + 3) ls (v.toList ++ rest) h' n' (k + mc2) (u + ms2) Q)) : G g y d mc ms pc ls st h n k u Q := by
  intro p e s m args below meth c H locs la X hR hL hl
  subst hst
  have hts := X.2.2.2.2.2.1
  have hK := X.2.2.2.2.2.2.2.2
  have hgood := gws_good hC.1
  obtain ⟨⟨host, v1⟩, v2, v3, v4⟩ := hV
  refine G_run X hL hl (va_runIN (host := host) (Ts := W0) (b := gB g + b) (As := As) (maxL := y2.2.2.1) (bytes := y2.2.1) ⟨X.1, X.2.1, X.2.2.1, X.2.2.2.2.2.2.1, hts⟩ kk ⟨va_cnB (ws' := W0) np hts hgood (by unfold gws; rw [v4]) rfl rfl (hK.2.1 _ v1) (hts _ hC.2.1) hC.2.2 (G_roomOk hdp), v3, hts _ v2⟩ ⟨GBlind, fun U hU hW => ⟨rfl, by rw [hU]; exact hR, hK.warm hW (by rw [hU, hR.1]; exact Nat.le_add_right _ _)⟩⟩ rfl hnp (hl.1) rfl (lv_room hrest) hd hcs)
-- ends
theorem G_iret {v : Int32} (hd : decode y.2.1 pc = .ok (.ireturn, 1)) (hr : y.2.2.2 = some .int) (hcs : k ≤ mc ∧ u ≤ ms) (hq : Q (some (.int v)) h n) : G g y d mc ms pc ls [.int v] h n k u Q := by
  intro p e s m args below meth c H locs la X hR hL hl
  refine W.widen hcs.1 hcs.2 ?_
  exact W.iret X.1 X.2.1 (X.2.2.2.1.trans hr) (fun t ht hW => ⟨_, h, n, rfl, by rw [ht]; exact hR, hq⟩) hL hd X.2.2.2.2.1
theorem G_zret {v : Int32} (hd : decode y.2.1 pc = .ok (.ireturn, 1)) (hr : y.2.2.2 = some .boolean) (hv : narrow .boolean (.int v) = .int v) (hcs : k ≤ mc ∧ u ≤ ms) (hq : Q (some (.int v)) h n) : G g y d mc ms pc ls [.int v] h n k u Q := by
  intro p e s m args below meth c H locs la X hR hL hl
  refine W.widen hcs.1 hcs.2 ?_
  exact W.zret X.1 X.2.1 (X.2.2.2.1.trans hr) hv (fun t ht hW => ⟨_, h, n, rfl, by rw [ht]; exact hR, hq⟩) hL hd X.2.2.2.2.1
theorem G_lret {v : Int64} (hd : decode y.2.1 pc = .ok (.lreturn, 1)) (hr : y.2.2.2 = some .long) (hcs : k ≤ mc ∧ u ≤ ms) (hq : Q (some (.long v)) h n) : G g y d mc ms pc ls [.long v] h n k u Q := by
  intro p e s m args below meth c H locs la X hR hL hl
  refine W.widen hcs.1 hcs.2 ?_
  exact W.lret X.1 X.2.1 (X.2.2.2.1.trans hr) (fun t ht hW => ⟨_, h, n, rfl, by rw [ht]; exact hR, hq⟩) hL hd X.2.2.2.2.1
theorem G_vret (hd : decode y.2.1 pc = .ok (.return_, 1)) (hr : y.2.2.2 = none) (hcs : k ≤ mc ∧ u ≤ ms) (hq : Q none h n) : G g y d mc ms pc ls [] h n k u Q := by
  intro p e s m args below meth c H locs la X hR hL hl
  refine W.widen hcs.1 hcs.2 ?_
  exact W.vret X.1 X.2.1 (X.2.2.2.1.trans hr) (fun t ht hW => ⟨_, h, n, rfl, by rw [ht]; exact hR, hq⟩) hL hd X.2.2.2.2.1
theorem G_aret {a : Nat} {C : String} (hd : decode y.2.1 pc = .ok (.areturn, 1)) (hr : y.2.2.2 = some (.object C)) (hcs : k ≤ mc ∧ u ≤ ms) (hq : Q (some (gr g a)) h n) : G g y d mc ms pc ls [gr g a] h n k u Q := by
  intro p e s m args below meth c H locs la X hR hL hl
  refine W.widen hcs.1 hcs.2 ?_
  exact W.aret X.1 X.2.1 (X.2.2.2.1.trans hr) (Or.inl ⟨_, rfl⟩) (Or.inr ⟨_, rfl⟩) (fun t ht hW => ⟨_, h, n, rfl, by rw [ht]; exact hR, hq⟩) hL hd X.2.2.2.2.1
-- the superclass's constructor
theorem G_objInit {a : Value} {b ix : Nat} (hd : decode y.2.1 pc = .ok (.invokespecial ix, 3)) (hlk : Cond.methodLink y.1.cls ix objectInit ∈ W0) (hin : Cond.instanceMethod objectInit ∈ W0) (hco : Cond.code objectInit ⟨#[0xb1]⟩ 1 none ∈ W0) (ha : a = .ref b) (hrest : (st.map fun v => v.category).sum ≤ 8) (hdp : 1 ≤ d)
    (kk : G g y d mc ms (pc + 3) ls st h n k u Q) : G g y d mc ms pc ls (a :: st) h n k u Q := by
  intro p e s m args below meth c H locs la X hR hL hl
  subst ha
  have hts := X.2.2.2.2.2.1
  exact W.objInit X.1 X.2.1 X.2.2.2.2.2.2.1 (hts _ hlk) (hts _ hin) (hts _ hco) rfl (hl.1.trans X.2.2.1.symm) rfl hd (by unfold grm; exact hdp) (by have := lv_room (m := m) (pc := pc) (ls := la) (rest := .ref b :: st) hrest; unfold grm; dsimp only; omega) (kk p e s m args below meth c H locs la X hR hL hl)
-- comparing longs
theorem G_lcmp {a b : Int} (hd : decode y.2.1 pc = .ok (.lcmp, 1)) (hr : -9223372036854775808 ≤ a ∧ a ≤ 9223372036854775807 ∧ -9223372036854775808 ≤ b ∧ b ≤ 9223372036854775807)
    (kk : G g y d mc ms (pc + 1) ls (.int (iI (if a < b then -1 else if a = b then 0 else 1)) :: st) h n k u Q) : G g y d mc ms pc ls (.long (iL b) :: .long (iL a) :: st) h n k u Q := by
  intro p e s m args below meth c H locs la X hR hL hl
  refine W.lcmp X.1 X.2.1 hd ?_
  have e1 : lg_cmp (iL a) (iL b) = iI (if a < b then -1 else if a = b then 0 else 1) := by
    have ha := iL_toInt ⟨hr.1, hr.2.1⟩
    have hb := iL_toInt hr.2.2
    have h1 : iL a < iL b ↔ a < b := by rw [Int64.lt_iff_toInt_lt, ha, hb]
    have h2 : iL a = iL b ↔ a = b := by rw [← Int64.toInt_inj, ha, hb]
    have h3 : iL a > iL b ↔ b < a := by show iL b < iL a ↔ _; rw [Int64.lt_iff_toInt_lt, ha, hb]
    unfold lg_cmp
    by_cases q1 : a < b
    · rw [if_neg (fun z => by have := h3.mp z; omega), if_neg (fun z => by have := h2.mp z; omega), if_pos q1]; rfl
    · by_cases q2 : a = b
      · rw [if_neg (fun z => by have := h3.mp z; omega), if_pos (h2.mpr q2), if_neg q1, if_pos q2]; rfl
      · rw [if_pos (h3.mpr (by omega)), if_neg q1, if_neg q2]; rfl
  rw [e1]
  exact kk p e s m args below meth c H locs la X hR hL hl
-- switches
theorem G_tin {dflt lo hi : Int} {offs : Array Int} {len : Nat} {a off : Int} (j t : Nat) (hd : decode y.2.1 pc = .ok (.tableswitch dflt lo hi offs, len)) (hr : -2147483648 ≤ a ∧ a ≤ 2147483647) (h1 : a = lo + j) (h2 : a ≤ hi) (ho : offs[j]? = some off) (ht : (pc : Int) + off = (t : Int))
    (kk : G g y d mc ms t ls st h n k u Q) : G g y d mc ms pc ls (.int (iI a) :: st) h n k u Q := by
  intro p e s m args below meth c H locs la X hR hL hl
  exact lv_tableIn X.1 X.2.1 hd (by rw [iI_toInt hr]; omega) (by rw [iI_toInt hr]; omega) (by rw [iI_toInt hr, show (a - lo).toNat = j by omega]; exact ho) ht (kk p e s m args below meth c H locs la X hR hL hl)
theorem G_tout {dflt lo hi : Int} {offs : Array Int} {len : Nat} {a : Int} (t : Nat) (hd : decode y.2.1 pc = .ok (.tableswitch dflt lo hi offs, len)) (hr : -2147483648 ≤ a ∧ a ≤ 2147483647) (h1 : a < lo ∨ hi < a) (ht : (pc : Int) + dflt = (t : Int))
    (kk : G g y d mc ms t ls st h n k u Q) : G g y d mc ms pc ls (.int (iI a) :: st) h n k u Q := by
  intro p e s m args below meth c H locs la X hR hL hl
  exact lv_tableOut X.1 X.2.1 hd (by rw [iI_toInt hr]; exact h1) ht (kk p e s m args below meth c H locs la X hR hL hl)
theorem G_lsw {dflt : Int} {ps : Array (Int × Int)} {len : Nat} {a off : Int} (t : Nat) (hd : decode y.2.1 pc = .ok (.lookupswitch dflt ps, len)) (hp : (ps.toList.zip (ps.toList.drop 1)).all (fun (a, next) => a.1 < next.1) = true) (hr : -2147483648 ≤ a ∧ a ≤ 2147483647) (ho : Op.lookupswitch.offset ps.toList dflt a = off) (ht : (pc : Int) + off = (t : Int))
    (kk : G g y d mc ms t ls st h n k u Q) : G g y d mc ms pc ls (.int (iI a) :: st) h n k u Q := by
  intro p e s m args below meth c H locs la X hR hL hl
  exact lv_lookup X.1 X.2.1 hd hp (by rw [iI_toInt hr]; exact ho) ht (kk p e s m args below meth c H locs la X hR hL hl)
-- a text constant
theorem G_ldcS {ix i : Nat} {tx : String} (hd : decode y.2.1 pc = .ok (.ldc ix, 2)) (hs : gStrs[i]? = some (y.1.cls, ix, tx))
    (kk : G g y d mc ms (pc + 2) ls (.ref (gSK g i) :: st) h n k u Q) : G g y d mc ms pc ls st h n k u Q := by
  intro p e s m args below meth c H locs la X hR hL hl
  exact va_ldcS X.1 X.2.1 X.2.2.2.2.2.2.1 (X.2.2.2.2.2.2.2.2.2.2.2.1.1 i _ _ _ hs) hd (kk p e s m args below meth c H locs la X hR hL hl)
-- makings
theorem G_new {ci ix N : Nat} {C : String} {T : u_T} {ty : Nat → FieldType} {fs : List Value} (hd : decode y.2.1 pc = .ok (.new ix, 3)) (hG : GCls ci C T N ty) (hcl : Cond.classLink y.1.cls ix C ∈ W0) (hin : Cond.instantiable C N ∈ W0) (hini : Cond.initialized C ∈ W0) (hfs : ∀ j, j < N → defaultValue (ty j) = vp_V fs j) (hcs : k + 1 ≤ mc ∧ u + N ≤ ms)
    (kk : G g y d mc ms (pc + 3) ls (gr g n :: st) (gup h n (gO ci fs)) (n + 1) (k + 1) (u + N) Q) : G g y d mc ms pc ls st h n k u Q := by
  intro p e s m args below meth c H locs la X hR hL hl
  obtain ⟨c1, c2, c3, c4⟩ := hG
  have hts := X.2.2.2.2.2.1
  have hKn := X.2.2.2.2.2.2.2.2.1.1 ci _ c1
  refine W.newcK X.1 X.2.1 X.2.2.2.2.2.2.1 (hts _ hcl) (hts _ hin) (hts _ hini) rfl hd hcs.1 hcs.2 hKn.2.1 rfl fun H1 kC hkC e1 z1 o1 => ?_
  have hz := hR.1
  have hat : va_at (gD g) vwCl (gB g + n, gO ci fs) H1 := by
    rw [← hz]
    exact ⟨_, c1, (u_born ty hts c2 hKn hkC e1 c3).to hfs⟩
  rw [hz]
  exact kk p e s m args below meth c H1 locs la X (hR.push hat z1 o1) hL hl
end CROWS
