set_option maxRecDepth 100000 in
set_option maxHeartbeats 4000000 in
/-- clear -/
theorem to_clear (g : pw_P) (l : Launch) {w : pw_W} {a b : Nat} {L rs : List Int} (hT : TO g w a b L rs) : pw_M g l yX7_clear cX7_clear 1 none { frames := 0, cells := 0, slots := 0, locals := 0 } [.ref a] w (fun r w' => r = none ∧ TO g w' a b [] rs ∧ fr13 w w') := by
  refine pw_M.of (by decide) (Nat.le_of_ble_eq_true rfl) rfl ?_
  intro p e s m args below meth c C hr hn
  obtain ⟨c1, d1, x2, x4, f14, f15, k1, k2, k3, k4, k5, k6, k7, k8, k9⟩ := id hT
  refine pw_aload_n (i := 0) C dX7_clear_0 rfl rfl (Or.inr ⟨_, rfl⟩) ?_
  refine pw_iconst C dX7_clear_1 ?_
  refine pw_put (j := 2) C cl_X7 fl_X7_23 (by decide) rfl rfl rfl rfl rfl k1 (Nat.le_of_ble_eq_true rfl) dX7_clear_2 (fun w_3 k_1 o_2 => ?_)
  have k_4 : w_3 13 = (a, some (OB 7 [.ref b, .ref c1, .int (iZ 0), .ref d1, .int (iZ x4)])) := k_1
  have c_5 := (o_2 14 (by omega)).trans k2
  have c_6 := (o_2 15 (by omega)).trans k3
  exact pw_vret C hr dX7_clear_5 ⟨rfl, ⟨_, _, _, _, _, _, k_4, c_5, c_6, k4, k5, ⟨rfl, fun j hj => absurd hj (by omega)⟩, k7, k8, k9⟩, fun k hk => (o_2 k (by omega))⟩

/-- the k-th letter told, -1 where there is none -/
def ltF (L : List Int) (k : Int) : Int := if 0 ≤ k ∧ k < 2000 ∧ k < (L.length : Int) then L.getD k.toNat 0 else -1
def szF (L : List Int) : Int := if (L.length : Int) < 2000 then (L.length : Int) else 2000
set_option maxRecDepth 100000 in
set_option maxHeartbeats 4000000 in
/-- characterAt -/
theorem to_char (g : pw_P) (l : Launch) {w : pw_W} {a b : Nat} {L rs : List Int} (hT : TO g w a b L rs) {k : Int} (hk : inI k) : pw_M g l yX7_characterAt cX7_characterAt 2 (some .int) { frames := 0, cells := 0, slots := 0, locals := 0 } [.ref a, .int (iZ k)] w (fun r w' => w = w' ∧ r = some (.int (iZ (ltF L k)))) := by
  refine pw_M.of (by decide) (Nat.le_of_ble_eq_true rfl) rfl ?_
  intro p e s m args below meth c C hr hn
  obtain ⟨c1, d1, x2, x4, f14, f15, k1, k2, k3, k4, k5, k6, k7, k8, k9⟩ := id hT
  have k6i := k6.in
  refine pw_iload_n (i := 1) C dX7_characterAt_0 rfl rfl ?_
  refine pw_if_lt (tgt := 21) C (by omega) dX7_characterAt_1 (by decide) (fun h_1 => ?_) (fun h_1 => ?_)
  · refine pw_iconst C dX7_characterAt_21 ?_
    exact pw_iret C hr dX7_characterAt_22 ⟨rfl, by unfold ltF; rw [if_neg (by have := k6.1; split at this <;> omega)]⟩
  · refine pw_iload_n (i := 1) C dX7_characterAt_4 rfl rfl ?_
    refine pw_aload_n (i := 0) C dX7_characterAt_5 rfl rfl (Or.inr ⟨_, rfl⟩) ?_
    refine pw_get (j := 2) C cl_X7 fl_X7_23 (by decide) rfl k1 rfl dX7_characterAt_6 ?_
    refine pw_icmp_ge (tgt := 21) C (by omega) (by omega) dX7_characterAt_9 (by decide) (fun h_2 => ?_) (fun h_2 => ?_)
    · refine pw_iconst C dX7_characterAt_21 ?_
      exact pw_iret C hr dX7_characterAt_22 ⟨rfl, by unfold ltF; rw [if_neg (by have := k6.1; split at this <;> omega)]⟩
    · refine pw_aload_n (i := 0) C dX7_characterAt_12 rfl rfl (Or.inr ⟨_, rfl⟩) ?_
      refine pw_get (j := 1) C cl_X7 fl_X7_9 (by decide) rfl k1 rfl dX7_characterAt_13 ?_
      refine pw_iload_n (i := 1) C dX7_characterAt_16 rfl rfl ?_
      have g_3 := k4 k
      refine pw_cald C k2 ⟨by omega, by omega, by omega⟩ dX7_characterAt_17 ?_
      refine pw_goto (tgt := 22) C dX7_characterAt_18 (by decide) ?_
      exact pw_iret C hr dX7_characterAt_22 ⟨rfl, by unfold ltF; rw [if_pos (by have := k6.1; split at this <;> omega), List.getD_eq_getElem?_getD, k6.2 k.toNat (by omega), show ((k.toNat : Nat) : Int) = k by omega]; rfl⟩

abbrev lmE (A : Nat → Nat) : va_E := OB 9 [.ref (A 1), .ref (A 2), .ref (A 8), .ref (A 13), .ref (A 16), .ref (A 18), .ref (A 20)]
/-- the class's object: what waits, the text, its faults, fuel, steps, the work's fault, functions, what was told -/
def LmI (g : pw_P) (w : pw_W) (A : Nat → Nat) (wt f : Int → Int) (len rf : Nat) (rp : Int) (fu sp wf : Nat) (T : List Dn) (L : List Int) (nk cap : Nat) (kp : Int) : Prop :=
  ∃ (t : Int → Ob) (n rs : Int) (D : Nat → Nat) (ds : List Df) (q : List Int), w 0 = (A 0, some (lmE A)) ∧ w 1 = (A 1, some (AI g 5 wt)) ∧ (∀ j, inI (wt j)) ∧ SB g w (A 2) cap t n ∧ RdJ g w A (len : Int) (rf : Int) rp f ∧ (∀ j, 0 ≤ f j ∧ f j < 256) ∧ len ≤ 3000 ∧ TO g w (A 13) (A 2) L q ∧ FnI g w A D ds ∧ DsT t kp ds T ∧ EvI g w A fu (sp : Int) (wf : Int) nk ∧ TmJ g w A ∧ w 20 = (A 20, some (cmE A rs kp)) ∧ (24 ≤ kp ∧ kp ≤ n) ∧ TOk T ∧ TSz T ∧ (1 ≤ fu ∧ fu ≤ 1000) ∧ ∀ k, 83 ≤ k ∧ k ≤ 86 → (w k).2 = none
theorem TO.same {g : pw_P} {w w' : pw_W} {a b : Nat} {L rs : List Int} (h : TO g w a b L rs) (hf : ∀ k, (13 ≤ k ∧ k ≤ 15) → w' k = w k) : TO g w' a b L rs := by
  obtain ⟨c1, d1, x2, x4, f14, f15, k1, k2, k3, k4⟩ := h
  exact ⟨c1, d1, x2, x4, f14, f15, (hf 13 (by omega)).trans k1, (hf 14 (by omega)).trans k2, (hf 15 (by omega)).trans k3, k4⟩
/-- only the reader, or what waits, has changed -/
theorem LmI.rd {g : pw_P} {w w' : pw_W} {A : Nat → Nat} {wt f wt' f' : Int → Int} {len rf len' rf' : Nat} {rp rp' : Int} {fu sp wf : Nat} {T : List Dn} {L : List Int} {nk cap : Nat} {kp : Int} (h : LmI g w A wt f len rf rp fu sp wf T L nk cap kp) (h1 : w' 1 = (A 1, some (AI g 5 wt'))) (h2 : ∀ j, inI (wt' j)) (hR : RdJ g w' A (len' : Int) (rf' : Int) rp' f') (h3 : ∀ j, 0 ≤ f' j ∧ f' j < 256) (h4 : len' ≤ 3000) (hf : ∀ k, (k = 0 ∨ (1 < k ∧ k < 8) ∨ 12 < k) → w' k = w k) : LmI g w' A wt' f' len' rf' rp' fu sp wf T L nk cap kp := by
  obtain ⟨t, n, rs, D, ds, q, c0, c1, c2, c3, c4, c5, c6, c7, c8, c9, c10, c11, c12, c13, c14, c15, c16, c17⟩ := h
  exact ⟨t, n, rs, D, ds, q, (hf 0 (by omega)).trans c0, h1, h2, c3.same (fun k a b => hf k (by omega)), hR, h3, h4, c7.same (fun k a => hf k (by omega)), c8.same (fun k a => hf k (by omega)), c9, c10.same (fun k a => hf k (by omega)), c11.same (fun k a => hf k (by omega)), (hf 20 (by omega)).trans c12, c13, c14, c15, c16, fun k hk => by rw [hf k (by omega)]; exact c17 k hk⟩
theorem LmI.c0 {g : pw_P} {w : pw_W} {A : Nat → Nat} {wt f : Int → Int} {len rf : Nat} {rp : Int} {fu sp wf : Nat} {T : List Dn} {L : List Int} {nk cap : Nat} {kp : Int} (h : LmI g w A wt f len rf rp fu sp wf T L nk cap kp) : w 0 = (A 0, some (lmE A)) := by
  obtain ⟨t, n, rs, D, ds, q, c0, -⟩ := h
  exact c0
set_option maxRecDepth 100000 in
set_option maxHeartbeats 4000000 in
/-- X9_steps -/
theorem m_X9_steps (g : pw_P) (l : Launch) {w : pw_W} {A : Nat → Nat} {wt f : Int → Int} {len rf : Nat} {rp : Int} {fu sp wf : Nat} {T : List Dn} {L : List Int} {nk cap : Nat} {kp : Int} (hL : LmI g w A wt f len rf rp fu sp wf T L nk cap kp) : pw_M g l yX9_steps cX9_steps 1 (some .int) { frames := 0, cells := 0, slots := 0, locals := 0 } [.ref (A 0)] w (fun r w' => w = w' ∧ r = some (.int (iZ ((sp : Nat) : Int)))) := by
  refine pw_M.of (by decide) (Nat.le_of_ble_eq_true rfl) rfl ?_
  intro p e s m args below meth c C hr hn
  obtain ⟨t, n, rs, D, ds, q, c0, c1, c2, c3, c4, c5, c6, c7, c8, c9, c10, c11, c12, c13, c14, c15, c16, c17⟩ := id hL
  obtain ⟨F, K, V, eop, bi, mv, tm, vl, sc, q1, q2, q3, q7, q9, q10⟩ := id c10
  refine pw_aload_n (i := 0) C dX9_steps_0 rfl rfl (Or.inr ⟨_, rfl⟩) ?_
  refine pw_get (j := 5) C cl_X9 fl_X9_48 (by decide) rfl c0 rfl dX9_steps_1 ?_
  refine pw_getN (j := 5) C cl_X3 fn_X9_118 (by decide) rfl q1 rfl dX9_steps_4 ?_
  exact pw_iret C hr dX9_steps_7 ⟨rfl, rfl⟩

set_option maxRecDepth 100000 in
set_option maxHeartbeats 4000000 in
/-- X9_functions -/
theorem m_X9_functions (g : pw_P) (l : Launch) {w : pw_W} {A : Nat → Nat} {wt f : Int → Int} {len rf : Nat} {rp : Int} {fu sp wf : Nat} {T : List Dn} {L : List Int} {nk cap : Nat} {kp : Int} (hL : LmI g w A wt f len rf rp fu sp wf T L nk cap kp) : pw_M g l yX9_functions cX9_functions 1 (some .int) { frames := 0, cells := 0, slots := 0, locals := 0 } [.ref (A 0)] w (fun r w' => w = w' ∧ r = some (.int (iZ ((T.length : Nat) : Int)))) := by
  refine pw_M.of (by decide) (Nat.le_of_ble_eq_true rfl) rfl ?_
  intro p e s m args below meth c C hr hn
  obtain ⟨t, n, rs, D, ds, q, c0, c1, c2, c3, c4, c5, c6, c7, c8, c9, c10, c11, c12, c13, c14, c15, c16, c17⟩ := id hL
  obtain ⟨Ff, n1, n2, n3, n4, n5⟩ := id c8
  refine pw_aload_n (i := 0) C dX9_functions_0 rfl rfl (Or.inr ⟨_, rfl⟩) ?_
  refine pw_get (j := 4) C cl_X9 fl_X9_39 (by decide) rfl c0 rfl dX9_functions_1 ?_
  refine pw_getN (j := 1) C cl_X4 fn_X9_121 (by decide) rfl n1 rfl dX9_functions_4 ?_
  exact pw_iret C hr dX9_functions_7 ⟨rfl, by rw [c9.len]⟩

set_option maxRecDepth 100000 in
set_option maxHeartbeats 4000000 in
/-- X9_size -/
theorem m_X9_size (g : pw_P) (l : Launch) {w : pw_W} {A : Nat → Nat} {wt f : Int → Int} {len rf : Nat} {rp : Int} {fu sp wf : Nat} {T : List Dn} {L : List Int} {nk cap : Nat} {kp : Int} (hL : LmI g w A wt f len rf rp fu sp wf T L nk cap kp) : pw_M g l yX9_size cX9_size 1 (some .int) { frames := 0, cells := 0, slots := 0, locals := 0 } [.ref (A 0)] w (fun r w' => w = w' ∧ r = some (.int (iZ (szF L)))) := by
  refine pw_M.of (by decide) (Nat.le_of_ble_eq_true rfl) rfl ?_
  intro p e s m args below meth c C hr hn
  obtain ⟨t, n, rs, D, ds, q, c0, c1, c2, c3, c4, c5, c6, c7, c8, c9, c10, c11, c12, c13, c14, c15, c16, c17⟩ := id hL
  obtain ⟨cc1, cd1, x2, x4, f14, f15, m1, m2, m3, m4, m5, m6, m7, m8, m9⟩ := id c7
  refine pw_aload_n (i := 0) C dX9_size_0 rfl rfl (Or.inr ⟨_, rfl⟩) ?_
  refine pw_get (j := 3) C cl_X9 fl_X9_32 (by decide) rfl c0 rfl dX9_size_1 ?_
  refine pw_getN (j := 2) C cl_X7 fn_X9_124 (by decide) rfl m1 rfl dX9_size_4 ?_
  exact pw_iret C hr dX9_size_7 ⟨rfl, by rw [show x2 = szF L from m6.1]⟩

set_option maxRecDepth 100000 in
set_option maxHeartbeats 4000000 in
/-- X9_letter -/
theorem m_X9_letter (g : pw_P) (l : Launch) {w : pw_W} {A : Nat → Nat} {wt f : Int → Int} {len rf : Nat} {rp : Int} {fu sp wf : Nat} {T : List Dn} {L : List Int} {nk cap : Nat} {kp : Int} (hL : LmI g w A wt f len rf rp fu sp wf T L nk cap kp) {k : Int} (hk : inI k) : pw_M g l yX9_letter cX9_letter 2 (some .int) { frames := 1, cells := 0, slots := 0, locals := 21 } [.ref (A 0), .int (iZ k)] w (fun r w' => w = w' ∧ r = some (.int (iZ (ltF L k)))) := by
  refine pw_M.of (by decide) (Nat.le_of_ble_eq_true rfl) rfl ?_
  intro p e s m args below meth c C hr hn
  obtain ⟨t, n, rs, D, ds, q, c0, c1, c2, c3, c4, c5, c6, c7, c8, c9, c10, c11, c12, c13, c14, c15, c16, c17⟩ := id hL
  refine pw_aload_n (i := 0) C dX9_letter_0 rfl rfl (Or.inr ⟨_, rfl⟩) ?_
  refine pw_get (j := 3) C cl_X9 fl_X9_32 (by decide) rfl c0 rfl dX9_letter_1 ?_
  refine pw_iload_n (i := 1) C dX9_letter_4 rfl rfl ?_
  refine pw_callV (As := [.int (iZ k)]) (st := []) C (to_char g l c7 hk) my_X7_characterAt ml_X9_125 (c7.rec C) rfl ⟨Nat.le_of_ble_eq_true rfl, Nat.le_of_ble_eq_true rfl⟩ ⟨Nat.le_of_ble_eq_true rfl, Nat.le_of_ble_eq_true rfl⟩ rfl (Nat.le_of_ble_eq_true rfl) dX9_letter_5 ?_
  rintro _ _ ⟨rfl, rfl⟩
  refine pw_stk (st' := [.int (iZ (ltF L k))]) rfl ?_
  exact pw_iret C hr dX9_letter_8 ⟨rfl, rfl⟩

def flF (rf : Nat) (rp : Int) (wf : Nat) (x : Int) : Int := if x = 0 then (rf : Int) else if x = 1 then rp else if x = 2 then (wf : Int) else -1
set_option maxRecDepth 100000 in
set_option maxHeartbeats 4000000 in
/-- X9_fault -/
theorem m_X9_fault (g : pw_P) (l : Launch) {w : pw_W} {A : Nat → Nat} {wt f : Int → Int} {len rf : Nat} {rp : Int} {fu sp wf : Nat} {T : List Dn} {L : List Int} {nk cap : Nat} {kp : Int} (hL : LmI g w A wt f len rf rp fu sp wf T L nk cap kp) {x : Int} (hx : inI x) : pw_M g l yX9_fault cX9_fault 2 (some .int) { frames := 0, cells := 0, slots := 0, locals := 0 } [.ref (A 0), .int (iZ x)] w (fun r w' => w = w' ∧ r = some (.int (iZ (flF rf rp wf x)))) := by
  refine pw_M.of (by decide) (Nat.le_of_ble_eq_true rfl) rfl ?_
  intro p e s m args below meth c C hr hn
  obtain ⟨t, n, rs, D, ds, q, c0, c1, c2, c3, c4, c5, c6, c7, c8, c9, c10, c11, c12, c13, c14, c15, c16, c17⟩ := id hL
  obtain ⟨ic, op, wd, am, sp0, dg, it, fi, aw, k8, k9, k10, k11, k12, ki, kf, ka⟩ := id c4
  obtain ⟨F, K, V, eop, bi, mv, tm, vl, sc, q1, q2, q3, q7, q9, q10⟩ := id c10
  refine pw_iload_n (i := 1) C dX9_fault_0 rfl rfl ?_
  by_cases h_1 : x = 0
  · refine pw_tsIn (tgt := 28) (off := 27) C dX9_fault_1 (by omega) (by omega) (by omega) (by rw [h_1]; rfl) (by decide) ?_
    refine pw_aload_n (i := 0) C dX9_fault_28 rfl rfl (Or.inr ⟨_, rfl⟩) ?_
    refine pw_get (j := 2) C cl_X9 fl_X9_25 (by decide) rfl c0 rfl dX9_fault_29 ?_
    refine pw_getN (j := 3) C cl_X5 fn_X9_111 (by decide) rfl k8 rfl dX9_fault_32 ?_
    exact pw_iret C hr dX9_fault_35 ⟨rfl, by unfold flF; rw [if_pos (by omega)]⟩
  by_cases h_2 : x = 1
  · refine pw_tsIn (tgt := 36) (off := 35) C dX9_fault_1 (by omega) (by omega) (by omega) (by rw [h_2]; rfl) (by decide) ?_
    refine pw_aload_n (i := 0) C dX9_fault_36 rfl rfl (Or.inr ⟨_, rfl⟩) ?_
    refine pw_get (j := 2) C cl_X9 fl_X9_25 (by decide) rfl c0 rfl dX9_fault_37 ?_
    refine pw_getN (j := 4) C cl_X5 fn_X9_114 (by decide) rfl k8 rfl dX9_fault_40 ?_
    exact pw_iret C hr dX9_fault_43 ⟨rfl, by unfold flF; rw [if_neg (by omega), if_pos (by omega)]⟩
  by_cases h_3 : x = 2
  · refine pw_tsIn (tgt := 44) (off := 43) C dX9_fault_1 (by omega) (by omega) (by omega) (by rw [h_3]; rfl) (by decide) ?_
    refine pw_aload_n (i := 0) C dX9_fault_44 rfl rfl (Or.inr ⟨_, rfl⟩) ?_
    refine pw_get (j := 5) C cl_X9 fl_X9_48 (by decide) rfl c0 rfl dX9_fault_45 ?_
    refine pw_getN (j := 6) C cl_X3 fn_X9_117 (by decide) rfl q1 rfl dX9_fault_48 ?_
    exact pw_iret C hr dX9_fault_51 ⟨rfl, by unfold flF; rw [if_neg (by omega), if_neg (by omega), if_pos (by omega)]⟩
  refine pw_tsOut (tgt := 52) C dX9_fault_1 (by omega) (by omega) (by decide) ?_
  refine pw_iconst C dX9_fault_52 ?_
  exact pw_iret C hr dX9_fault_53 ⟨rfl, by unfold flF; rw [if_neg (by omega), if_neg (by omega), if_neg (by omega)]⟩

set_option maxRecDepth 100000 in
set_option maxHeartbeats 4000000 in
/-- feed -/
theorem lm_feed (g : pw_P) (l : Launch) {w : pw_W} {A : Nat → Nat} {wt f : Int → Int} {len rf : Nat} {rp : Int} {fu sp wf : Nat} {T : List Dn} {L : List Int} {nk cap : Nat} {kp : Int} (hL : LmI g w A wt f len rf rp fu sp wf T L nk cap kp) {a b cv d e1 : Int} (ha : inI a) (hb : inI b) (hc : inI cv) (hd : inI d) (he : inI e1) : pw_M g l yX9_feed cX9_feed 6 none { frames := 0, cells := 0, slots := 0, locals := 0 } [.ref (A 0), .int (iZ a), .int (iZ b), .int (iZ cv), .int (iZ d), .int (iZ e1)] w (fun r w' => r = none ∧ LmI g w' A (upz (upz (upz (upz (upz wt 0 a) 1 b) 2 cv) 3 d) 4 e1) f len rf rp fu sp wf T L nk cap kp ∧ ∀ k, 899 < k → w' k = w k) := by
  refine pw_M.of (by decide) (Nat.le_of_ble_eq_true rfl) rfl ?_
  intro p e s m args below meth c C hr hn
  obtain ⟨t, n, rs, D, ds, q, c0, c1, c2, c3, c4, c5, c6, c7, c8, c9, c10, c11, c12, c13, c14, c15, c16, c17⟩ := id hL
  refine pw_aload_n (i := 0) C dX9_feed_0 rfl rfl (Or.inr ⟨_, rfl⟩) ?_
  refine pw_get (j := 0) C cl_X9 fl_X9_9 (by decide) rfl c0 rfl dX9_feed_1 ?_
  refine pw_iconst C dX9_feed_4 ?_
  refine pw_iload_n (i := 1) C dX9_feed_5 rfl rfl ?_
  refine pw_iast C c1 ⟨by omega, by omega, by omega⟩ dX9_feed_6 (fun w_3 k_1 o_2 => ?_)
  refine pw_aload_n (i := 0) C dX9_feed_7 rfl rfl (Or.inr ⟨_, rfl⟩) ?_
  have c_4 := (o_2 0 (by omega)).trans c0
  refine pw_get (j := 0) C cl_X9 fl_X9_9 (by decide) rfl c_4 rfl dX9_feed_8 ?_
  refine pw_iconst C dX9_feed_11 ?_
  refine pw_iload_n (i := 2) C dX9_feed_12 rfl rfl ?_
  refine pw_iast C k_1 ⟨by omega, by omega, by omega⟩ dX9_feed_13 (fun w_7 k_5 o_6 => ?_)
  refine pw_aload_n (i := 0) C dX9_feed_14 rfl rfl (Or.inr ⟨_, rfl⟩) ?_
  have c_8 := (o_6 0 (by omega)).trans c_4
  refine pw_get (j := 0) C cl_X9 fl_X9_9 (by decide) rfl c_8 rfl dX9_feed_15 ?_
  refine pw_iconst C dX9_feed_18 ?_
  refine pw_iload_n (i := 3) C dX9_feed_19 rfl rfl ?_
  refine pw_iast C k_5 ⟨by omega, by omega, by omega⟩ dX9_feed_20 (fun w_11 k_9 o_10 => ?_)
  refine pw_aload_n (i := 0) C dX9_feed_21 rfl rfl (Or.inr ⟨_, rfl⟩) ?_
  have c_12 := (o_10 0 (by omega)).trans c_8
  refine pw_get (j := 0) C cl_X9 fl_X9_9 (by decide) rfl c_12 rfl dX9_feed_22 ?_
  refine pw_iconst C dX9_feed_25 ?_
  refine pw_iload C dX9_feed_26 rfl ?_
  refine pw_iast C k_9 ⟨by omega, by omega, by omega⟩ dX9_feed_28 (fun w_15 k_13 o_14 => ?_)
  refine pw_aload_n (i := 0) C dX9_feed_29 rfl rfl (Or.inr ⟨_, rfl⟩) ?_
  have c_16 := (o_14 0 (by omega)).trans c_12
  refine pw_get (j := 0) C cl_X9 fl_X9_9 (by decide) rfl c_16 rfl dX9_feed_30 ?_
  refine pw_iconst C dX9_feed_33 ?_
  refine pw_iload C dX9_feed_34 rfl ?_
  refine pw_iast C k_13 ⟨by omega, by omega, by omega⟩ dX9_feed_36 (fun w_19 k_17 o_18 => ?_)
  have c_20 := (o_18 0 (by omega)).trans c_16
  exact pw_vret C hr dX9_feed_37 ⟨rfl, hL.rd k_17 (upz_inI (upz_inI (upz_inI (upz_inI (upz_inI c2 ha) hb) hc) hd) he) (c4.same (fun k hk => (o_18 k (by omega)).trans ((o_14 k (by omega)).trans ((o_10 k (by omega)).trans ((o_6 k (by omega)).trans (o_2 k (by omega))))))) c5 c6 (fun k hk => (o_18 k (by omega)).trans ((o_14 k (by omega)).trans ((o_10 k (by omega)).trans ((o_6 k (by omega)).trans (o_2 k (by omega)))))), fun k hk => (o_18 k (by omega)).trans ((o_14 k (by omega)).trans ((o_10 k (by omega)).trans ((o_6 k (by omega)).trans (o_2 k (by omega)))))⟩

set_option maxRecDepth 100000 in
set_option maxHeartbeats 4000000 in
/-- fuel -/
theorem m_X9_fuel (g : pw_P) (l : Launch) {w : pw_W} {A : Nat → Nat} {wt f : Int → Int} {len rf : Nat} {rp : Int} {fu sp wf : Nat} {T : List Dn} {L : List Int} {nk cap : Nat} {kp : Int} (hL : LmI g w A wt f len rf rp fu sp wf T L nk cap kp) {x : Int} (hx : inI x) : pw_M g l yX9_fuel cX9_fuel 3 (some .int) { frames := 0, cells := 0, slots := 0, locals := 0 } [.ref (A 0), .int (iZ x)] w (fun r w' => r = some (.int (iZ (if 1 ≤ x ∧ x ≤ 1000 then (fu : Int) else -1))) ∧ LmI g w' A wt f len rf rp (if 1 ≤ x ∧ x ≤ 1000 then x.toNat else fu) sp wf T L nk cap kp ∧ ∀ k, 899 < k → w' k = w k) := by
  refine pw_M.of (by decide) (Nat.le_of_ble_eq_true rfl) rfl ?_
  intro p e s m args below meth c C hr hn
  obtain ⟨t, n, rs, D, ds, q, c0, c1, c2, c3, c4, c5, c6, c7, c8, c9, c10, c11, c12, c13, c14, c15, c16, c17⟩ := id hL
  obtain ⟨F, K, V, eop, bi, mv, tm, vl, sc, q1, q2, q3, q7, q9, q10⟩ := id c10
  refine pw_iload_n (i := 1) C dX9_fuel_0 rfl rfl ?_
  refine pw_iconst C dX9_fuel_1 ?_
  refine pw_icmp_lt (tgt := 12) C (by omega) (by omega) dX9_fuel_2 (by decide) (fun h_1 => ?_) (fun h_1 => ?_)
  · refine pw_iconst C dX9_fuel_12 ?_
    exact pw_iret C hr dX9_fuel_13 ⟨by rw [if_neg (by omega)], by rw [if_neg (by omega)]; exact hL, fun _ _ => rfl⟩
  · refine pw_iload_n (i := 1) C dX9_fuel_5 rfl rfl ?_
    refine pw_sipush C dX9_fuel_6 (by decide) ?_
    refine pw_icmp_le (tgt := 14) C (by omega) (by omega) dX9_fuel_9 (by decide) (fun h_2 => ?_) (fun h_2 => ?_)
    · refine pw_aload_n (i := 0) C dX9_fuel_14 rfl rfl (Or.inr ⟨_, rfl⟩) ?_
      refine pw_get (j := 5) C cl_X9 fl_X9_48 (by decide) rfl c0 rfl dX9_fuel_15 ?_
      refine pw_getN (j := 4) C cl_X3 fn_X9_75 (by decide) rfl q1 rfl dX9_fuel_18 ?_
      refine pw_istore_n (i := 2) (lv' := [(0, .ref (A 0)), (1, .int (iZ x)), (2, .int (iZ ((fu : Nat) : Int)))]) C dX9_fuel_21 rfl (by decide) rfl ?_
      refine pw_aload_n (i := 0) C dX9_fuel_22 rfl rfl (Or.inr ⟨_, rfl⟩) ?_
      refine pw_get (j := 5) C cl_X9 fl_X9_48 (by decide) rfl c0 rfl dX9_fuel_23 ?_
      refine pw_iload_n (i := 1) C dX9_fuel_26 rfl rfl ?_
      refine pw_putN (j := 4) C cl_X3 fn_X9_75 (by decide) rfl rfl rfl rfl rfl q1 (Nat.le_of_ble_eq_true rfl) dX9_fuel_27 (fun w_5 k_3 o_4 => ?_)
      have k_6 : w_5 18 = ((A 18), some (OB 3 [.ref (A 2), .ref (A 16), .ref (A 19), .int (iZ eop), .int (iZ x), .int (iZ ((sp : Nat) : Int)), .int (iZ ((wf : Nat) : Int)), .int (iZ bi), .int (iZ mv), .int (iZ tm), va_rf sc, .int (iZ vl)])) := k_3
      refine pw_iload_n (i := 2) C dX9_fuel_30 rfl rfl ?_
      refine pw_iret C hr dX9_fuel_31 ⟨by rw [if_pos (by omega)], ?_, fun k hk => (o_4 k (by omega))⟩
      rw [if_pos (by omega)]
      exact ⟨t, n, rs, D, ds, q, ((o_4 0 (by omega))).trans c0, ((o_4 1 (by omega))).trans c1, c2, c3.same (fun k a b => (o_4 k (by omega))), c4.same (fun k a => (o_4 k (by omega))), c5, c6, c7.same (fun k a => (o_4 k (by omega))), c8.same (fun k a => (o_4 k (by omega))), c9, ⟨F, K, V, eop, bi, mv, tm, vl, sc, by rw [k_6, show ((x.toNat : Nat) : Int) = x by omega], ((o_4 19 (by omega))).trans q2, q3, q7, q9.same (fun i hi => ⟨rfl, rfl, (o_4 _ (by omega)), (o_4 _ (by omega))⟩), q10⟩, c11.same (fun k a => (o_4 k (by omega))), ((o_4 20 (by omega))).trans c12, c13, c14, c15, ⟨by omega, by omega⟩, fun k hk => by rw [show w_5 k = w k from (o_4 k (by omega))]; exact c17 k hk⟩
    · refine pw_iconst C dX9_fuel_12 ?_
      exact pw_iret C hr dX9_fuel_13 ⟨by rw [if_neg (by omega)], by rw [if_neg (by omega)]; exact hL, fun _ _ => rfl⟩

