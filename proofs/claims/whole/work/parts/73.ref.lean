def MOut (g : pw_P) (w : pw_W) (B : Nat → Nat) (v : Int) (L : List Int) : Prop := ∃ fo : Int → Int, w 1015 = (B 14, some (AI g 2000 fo)) ∧ (∀ j, inI (fo j)) ∧ OutIs fo v L
theorem MOut.same {g : pw_P} {w w' : pw_W} {B : Nat → Nat} {v : Int} {L : List Int} (h : MOut g w B v L) (hf : w' 1015 = w 1015) : MOut g w' B v L := by
  obtain ⟨fo, h1, h2, h3⟩ := h
  exact ⟨fo, hf.trans h1, h2, h3⟩
theorem MOut.v {g : pw_P} {w : pw_W} {B : Nat → Nat} {v : Int} {L : List Int} (h : MOut g w B v L) : v = szF L ∧ 0 ≤ v ∧ v ≤ 2000 := by
  obtain ⟨fo, h1, h2, h3⟩ := h
  exact ⟨h3.1, h3.in.1, h3.in.2⟩
/-- the last j letters of a word of m -/
def wlF (f : Int → Int) (b : Int) (m : Nat) : Nat → List Int
  | 0 => []
  | j + 1 => f (b + (m : Int) - ((j : Int) + 1)) :: wlF f b m j
theorem spW_lt {f : Int → Int} {b : Int} : ∀ m : Nat, spW f b m < 47 ^ m
  | 0 => by simp [spW]
  | m + 1 => by
    have h1 := spW_lt (f := f) (b := b) m
    have h2 := ixZ_rng (f (b + (m : Int)))
    simp only [spW, Nat.pow_succ]
    omega
theorem spW_pos {f : Int → Int} {b : Int} : ∀ m : Nat, (∀ k : Int, 0 ≤ k → k < ((m + 1 : Nat) : Int) → atL (f (b + k)) = true) → 47 ^ m ≤ spW f b (m + 1)
  | 0, h => by
    have d : 0 < ixZ 1 (f (b + ((0 : Nat) : Int))) := of_decide_eq_true (h ((0 : Nat) : Int) (by omega) (by omega))
    simp only [spW, Nat.pow_zero]; omega
  | m + 1, h => by
    have h1 := spW_pos (f := f) (b := b) m (fun k k0 k1 => h k k0 (by omega))
    have e : spW f b (m + 1 + 1) = spW f b (m + 1) * 47 + (ixZ 1 (f (b + ((m + 1 : Nat) : Int)))).toNat := rfl
    rw [e, Nat.pow_succ]; omega
theorem spW_div {f : Int → Int} {b : Int} : ∀ (m j : Nat), spW f b (m + j) / 47 ^ j = spW f b m
  | m, 0 => by simp
  | m, j + 1 => by
    have h2 := ixZ_rng (f (b + ((m + j : Nat) : Int)))
    rw [show m + (j + 1) = (m + j) + 1 by omega, Nat.pow_succ, Nat.mul_comm, ← Nat.div_div_eq_div_mul]
    have e : spW f b (m + j + 1) = spW f b (m + j) * 47 + (ixZ 1 (f (b + ((m + j : Nat) : Int)))).toNat := rfl
    rw [e, show (spW f b (m + j) * 47 + (ixZ 1 (f (b + ((m + j : Nat) : Int)))).toNat) / 47 = spW f b (m + j) by omega]
    exact spW_div m j
theorem ixZ_ch {c : Int} (h : 0 < ixZ 1 c) : chZ 1 (ixZ 1 c) = c := ixF_ch c 47 0 (by omega) (by have : ixZ 1 c = ixF 1 c 47 0 := rfl; omega)
theorem us_pow (j : Nat) : us (j + 1) = ((47 ^ j : Nat) : Int) := by show (47 : Int) ^ j = _; rw [Int.natCast_pow]; rfl
theorem spF_w {f : Int → Int} {b : Int} {m : Nat} (hw : ∀ k : Int, 0 ≤ k → k < m → atL (f (b + k)) = true) : ∀ j : Nat, j ≤ m → spF ((spW f b m : Nat) : Int) j = wlF f b m j
  | 0, _ => rfl
  | j + 1, h => by
    have hm : m = (m - (j + 1)) + 1 + j := by omega
    have d1 := spW_div (f := f) (b := b) (m - (j + 1) + 1) j
    rw [← hm] at d1
    have hp : 47 ^ j ≤ spW f b m := by
      have h1 := spW_pos (f := f) (b := b) (m - 1) (fun k k0 k1 => hw k k0 (by omega))
      rw [show m - 1 + 1 = m by omega] at h1
      exact Nat.le_trans (Nat.pow_le_pow_right (by decide) (by omega)) h1
    have e : spW f b (m - (j + 1) + 1) = spW f b (m - (j + 1)) * 47 + (ixZ 1 (f (b + ((m - (j + 1) : Nat) : Int)))).toNat := rfl
    have hi := ixZ_rng (f (b + ((m - (j + 1) : Nat) : Int)))
    have hp0 : 0 < ixZ 1 (f (b + ((m - (j + 1) : Nat) : Int))) := of_decide_eq_true (hw _ (by omega) (by omega))
    rw [spF, us_pow, if_pos (by omega), spF_w hw j (by omega), wlF]
    have q : ((spW f b m : Nat) : Int) / ((47 ^ j : Nat) : Int) % 47 = ixZ 1 (f (b + ((m - (j + 1) : Nat) : Int))) := by
      rw [← Int.natCast_ediv, d1, e]; omega
    rw [q, ixZ_ch hp0, show b + ((m - (j + 1) : Nat) : Int) = b + (m : Int) - ((j : Int) + 1) by omega]
    rfl
theorem spF_hi {v : Nat} {m : Nat} (hv : v < 47 ^ m) : ∀ j : Nat, m ≤ j → spF ((v : Nat) : Int) j = spF ((v : Nat) : Int) m
  | 0, h => by rw [Nat.le_zero.mp h]
  | j + 1, h => by
    by_cases e : m = j + 1
    · rw [e]
    · have h2 : 47 ^ m ≤ 47 ^ j := Nat.pow_le_pow_right (by decide) (by omega)
      rw [spF, us_pow, if_neg (by omega), List.nil_append]
      exact spF_hi hv j (by omega)
theorem lts_w {f : Int → Int} {b : Int} {m : Nat} (hm : m ≤ 11) (hw : ∀ k : Int, 0 ≤ k → k < m → atL (f (b + k)) = true) : lts ((spW f b m : Nat) : Int) = wlF f b m m := by
  unfold lts
  rw [spF_hi (spW_lt m) 11 hm, spF_w hw m (Nat.le_refl _)]
theorem wlF_len (f : Int → Int) (b : Int) (m : Nat) : ∀ j : Nat, (wlF f b m j).length = j
  | 0 => rfl
  | j + 1 => by simp only [wlF, List.length_cons, wlF_len f b m j]
theorem dgF_hi {v : Int} {d : Nat} (h : v < uz (d + 2)) : ∀ j : Nat, d + 1 ≤ j → j ≤ 19 → dgF v j = dgF v (d + 1)
  | 0, h1, _ => by omega
  | j + 1, h1, h2 => by
    by_cases e : d = j
    · rw [e]
    · have hu : uz (d + 2) ≤ uz (j + 1) := by
        show (10 : Int) ^ (d + 1) ≤ 10 ^ j
        have : (10 : Nat) ^ (d + 1) ≤ 10 ^ j := Nat.pow_le_pow_right (by decide) (by omega)
        have h3 := Int.ofNat_le.mpr this
        rw [Int.natCast_pow, Int.natCast_pow] at h3
        exact h3
      rw [dgF, if_neg (by omega), List.nil_append]
      exact dgF_hi h j (by omega) (by omega)
theorem dgF_ne (v : Int) : ∀ j : Nat, 1 ≤ (dgF v (j + 1)).length
  | 0 => by rw [dgF, if_pos (Or.inr rfl)]; simp
  | j + 1 => by have := dgF_ne v j; rw [dgF, List.length_append]; omega
set_option maxRecDepth 100000 in
set_option maxHeartbeats 4000000 in
/-- tellLetter -/
theorem m_X10_tellLetter (g : pw_P) (l : Launch) {w : pw_W} {b : Nat} {B : Nat → Nat} {x : Nat → Int} (h0 : w 1000 = (b, some (mdE B x))) {v c0 : Int} {L : List Int} (h15 : x 15 = v) (hO : MOut g w B v L) (hc : inI c0) : pw_M g l yX10_tellLetter cX10_tellLetter 2 none { frames := 0, cells := 0, slots := 0, locals := 0 } [.ref b, .int (iZ c0)] w (fun r w' => r = none ∧ (∃ v', w' 1000 = (b, some (mdE B (va_up x 15 v'))) ∧ MOut g w' B v' (L ++ [c0])) ∧ ∀ k, (k ≠ 1000 ∧ k ≠ 1015) → w' k = w k) := by
  refine pw_M.of (by decide) (Nat.le_of_ble_eq_true rfl) rfl ?_
  intro p e s m args below meth c C hr hn
  have hv := hO.v
  obtain ⟨fo, f1, f2, f3⟩ := id hO
  refine pw_aload_n (i := 0) C dX10_tellLetter_0 rfl rfl (Or.inr ⟨_, rfl⟩) ?_
  refine pw_get (j := 15) C cl_X10 fl_X10_265 (by decide) rfl h0 rfl dX10_tellLetter_1 ?_
  refine pw_stk (st' := [.int (iZ (x 15))]) rfl ?_
  refine pw_stk (st' := [.int (iZ v)]) (by rw [h15]) ?_
  refine pw_sipush C dX10_tellLetter_4 (by decide) ?_
  refine pw_icmp_ge (tgt := 30) C (by omega) (by omega) dX10_tellLetter_7 (by decide) (fun h_1 => ?_) (fun h_1 => ?_)
  · exact pw_vret C hr dX10_tellLetter_30 ⟨rfl, ⟨x 15, h0, by rw [h15]; exact ⟨fo, f1, f2, f3.full (by omega) _⟩⟩, fun _ _ => rfl⟩
  · refine pw_aload_n (i := 0) C dX10_tellLetter_10 rfl rfl (Or.inr ⟨_, rfl⟩) ?_
    refine pw_get (j := 14) C cl_X10 fl_X10_46 (by decide) rfl h0 rfl dX10_tellLetter_11 ?_
    refine pw_stk (st' := [.ref (B 14)]) rfl ?_
    refine pw_aload_n (i := 0) C dX10_tellLetter_14 rfl rfl (Or.inr ⟨_, rfl⟩) ?_
    refine pw_get (j := 15) C cl_X10 fl_X10_265 (by decide) rfl h0 rfl dX10_tellLetter_15 ?_
    refine pw_stk (st' := [.int (iZ (x 15)), .ref (B 14)]) rfl ?_
    refine pw_stk (st' := [.int (iZ v), .ref (B 14)]) (by rw [h15]) ?_
    refine pw_iload_n (i := 1) C dX10_tellLetter_18 rfl rfl ?_
    refine pw_iast C f1 ⟨by omega, by omega, by omega⟩ dX10_tellLetter_19 (fun w_4 k_2 o_3 => ?_)
    refine pw_aload_n (i := 0) C dX10_tellLetter_20 rfl rfl (Or.inr ⟨_, rfl⟩) ?_
    refine pw_dup C dX10_tellLetter_21 rfl ?_
    have c_5 := (o_3 1000 (by omega)).trans h0
    refine pw_get (j := 15) C cl_X10 fl_X10_265 (by decide) rfl c_5 rfl dX10_tellLetter_22 ?_
    refine pw_stk (st' := [.int (iZ (x 15)), .ref b]) rfl ?_
    refine pw_stk (st' := [.int (iZ v), .ref b]) (by rw [h15]) ?_
    refine pw_iconst C dX10_tellLetter_25 ?_
    refine pw_iadd C dX10_tellLetter_26 ?_
    refine pw_put (j := 15) C cl_X10 fl_X10_265 (by decide) rfl rfl rfl rfl rfl c_5 (Nat.le_of_ble_eq_true rfl) dX10_tellLetter_27 (fun w_8 k_6 o_7 => ?_)
    have k_9 : w_8 1000 = (b, some (mdE B (va_up x 15 (v + 1)))) := k_6
    have c_10 := (o_7 1015 (by omega)).trans k_2
    exact pw_vret C hr dX10_tellLetter_30 ⟨rfl, ⟨_, k_9, ⟨_, c_10, upz_inI f2 hc, f3.put (by omega)⟩⟩, fun k hk => (o_7 k (by omega)).trans (o_3 k (by omega))⟩

set_option maxRecDepth 100000 in
set_option maxHeartbeats 4000000 in
/-- isFull -/
theorem m_X10_isFull (g : pw_P) (l : Launch) {w : pw_W} {b : Nat} {B : Nat → Nat} {x : Nat → Int} (h0 : w 1000 = (b, some (mdE B x))) {v : Int} (h15 : x 15 = v) (hv : 0 ≤ v ∧ v ≤ 2000) : pw_M g l yX10_isFull cX10_isFull 1 (some .boolean) { frames := 0, cells := 0, slots := 0, locals := 0 } [.ref b] w (fun r w' => w = w' ∧ r = some (.int (iZ (b2i (decide (v = 2000)))))) := by
  refine pw_M.of (by decide) (Nat.le_of_ble_eq_true rfl) rfl ?_
  intro p e s m args below meth c C hr hn
  refine pw_aload_n (i := 0) C dX10_isFull_0 rfl rfl (Or.inr ⟨_, rfl⟩) ?_
  refine pw_get (j := 15) C cl_X10 fl_X10_265 (by decide) rfl h0 rfl dX10_isFull_1 ?_
  refine pw_stk (st' := [.int (iZ (x 15))]) rfl ?_
  refine pw_stk (st' := [.int (iZ v)]) (by rw [h15]) ?_
  refine pw_sipush C dX10_isFull_4 (by decide) ?_
  refine pw_icmp_ne (tgt := 14) C (by omega) (by omega) dX10_isFull_7 (by decide) (fun h_1 => ?_) (fun h_1 => ?_)
  · refine pw_iconst C dX10_isFull_14 ?_
    exact pw_zret C hr (by decide +kernel) dX10_isFull_15 ⟨rfl, by rw [show decide (v = 2000) = false from decide_eq_false (by omega)]; rfl⟩
  · refine pw_iconst C dX10_isFull_10 ?_
    refine pw_goto (tgt := 15) C dX10_isFull_11 (by decide) ?_
    exact pw_zret C hr (by decide +kernel) dX10_isFull_15 ⟨rfl, by rw [show decide (v = 2000) = true from decide_eq_true (by omega)]; rfl⟩

set_option maxRecDepth 100000 in
set_option maxHeartbeats 4000000 in
/-- later -/
theorem m_X10_later (g : pw_P) (l : Launch) {w : pw_W} {b : Nat} {B : Nat → Nat} {x : Nat → Int} (h0 : w 1000 = (b, some (mdE B x))) {v c0 : Int} {fk : Int → Int} (h19 : x 19 = v) (f1 : w 1019 = (B 18, some (AI g 4000 fk))) (f2 : ∀ j, inI (fk j)) (hv : 0 ≤ v ∧ v < 4000) : pw_M g l yX10_later cX10_later 2 none { frames := 0, cells := 0, slots := 0, locals := 0 } [.ref b, .int (iZ c0)] w (fun r w' => r = none ∧ w' 1000 = (b, some (mdE B (va_up x 19 (v + 1)))) ∧ w' 1019 = (B 18, some (AI g 4000 (upz fk v c0))) ∧ ∀ k, (k ≠ 1000 ∧ k ≠ 1019) → w' k = w k) := by
  refine pw_M.of (by decide) (Nat.le_of_ble_eq_true rfl) rfl ?_
  intro p e s m args below meth c C hr hn
  refine pw_aload_n (i := 0) C dX10_later_0 rfl rfl (Or.inr ⟨_, rfl⟩) ?_
  refine pw_get (j := 18) C cl_X10 fl_X10_52 (by decide) rfl h0 rfl dX10_later_1 ?_
  refine pw_stk (st' := [.ref (B 18)]) rfl ?_
  refine pw_aload_n (i := 0) C dX10_later_4 rfl rfl (Or.inr ⟨_, rfl⟩) ?_
  refine pw_get (j := 19) C cl_X10 fl_X10_274 (by decide) rfl h0 rfl dX10_later_5 ?_
  refine pw_stk (st' := [.int (iZ (x 19)), .ref (B 18)]) rfl ?_
  refine pw_stk (st' := [.int (iZ v), .ref (B 18)]) (by rw [h19]) ?_
  refine pw_iload_n (i := 1) C dX10_later_8 rfl rfl ?_
  refine pw_iast C f1 ⟨by omega, by omega, by omega⟩ dX10_later_9 (fun w_3 k_1 o_2 => ?_)
  refine pw_aload_n (i := 0) C dX10_later_10 rfl rfl (Or.inr ⟨_, rfl⟩) ?_
  refine pw_dup C dX10_later_11 rfl ?_
  have c_4 := (o_2 1000 (by omega)).trans h0
  refine pw_get (j := 19) C cl_X10 fl_X10_274 (by decide) rfl c_4 rfl dX10_later_12 ?_
  refine pw_stk (st' := [.int (iZ (x 19)), .ref b]) rfl ?_
  refine pw_stk (st' := [.int (iZ v), .ref b]) (by rw [h19]) ?_
  refine pw_iconst C dX10_later_15 ?_
  refine pw_iadd C dX10_later_16 ?_
  refine pw_put (j := 19) C cl_X10 fl_X10_274 (by decide) rfl rfl rfl rfl rfl c_4 (Nat.le_of_ble_eq_true rfl) dX10_later_17 (fun w_7 k_5 o_6 => ?_)
  have k_8 : w_7 1000 = (b, some (mdE B (va_up x 19 (v + 1)))) := k_5
  have c_9 := (o_6 1019 (by omega)).trans k_1
  exact pw_vret C hr dX10_later_20 ⟨rfl, k_8, c_9, fun k hk => (o_6 k (by omega)).trans (o_2 k (by omega))⟩

set_option maxRecDepth 100000 in
set_option maxHeartbeats 4000000 in
/-- isQuoted -/
theorem m_X10_isQuoted (g : pw_P) (l : Launch) {w : pw_W} {b : Nat} {B : Nat → Nat} {x : Nat → Int} (h0 : w 1000 = (b, some (mdE B x))) {t : Int → Ob} {n : Int} {sN : Nat} {fZ : Int → Int} (hR : RS g w B t n sN fZ) (h7 : x 7 = n) (h10 : x 10 = ((sN : Nat) : Int)) (hK : RK t n) {o : Int} {X : Ob} (ho : Vl t n o X) : pw_M g l yX10_isQuoted cX10_isQuoted 2 (some .boolean) { frames := 1, cells := 0, slots := 0, locals := 21 } [.ref b, .int (iZ o)] w (fun r w' => w = w' ∧ r = some (.int (iZ (b2i (obQ X))))) := by
  refine pw_M.of (by decide) (Nat.le_of_ble_eq_true rfl) rfl ?_
  intro p e s m args below meth c C hr hn
  obtain ⟨fL, fR, fH, fV, l0, l1, l4, l5, ⟨m0, m1, m4, m5⟩, hln⟩ := RS.lens hR
  have hRn := hR.n
  have hor := Vl.rg hR ho
  refine pw_aload_n (i := 0) C dX10_isQuoted_0 rfl rfl (Or.inr ⟨_, rfl⟩) ?_
  refine pw_iload_n (i := 1) C dX10_isQuoted_1 rfl rfl ?_
  refine pw_callV (As := [.int (iZ o)]) (st := []) C (m_X10_isPair g l h0 hR h7 h10 ho) my_X10_isPair ml_X10_195 (pw_rec.of C h0 cl_X10.1) rfl ⟨Nat.le_of_ble_eq_true rfl, Nat.le_of_ble_eq_true rfl⟩ ⟨by (try dsimp only); omega, by (try dsimp only); omega⟩ rfl (Nat.le_of_ble_eq_true rfl) dX10_isQuoted_2 ?_
  rintro _ _ ⟨rfl, rfl⟩
  refine pw_stk (st' := [.int (iZ (b2i (obP X)))]) rfl ?_
  refine pw_if_eqB (tgt := 49) C dX10_isQuoted_5 (by decide) (fun h_1 => ?_) (fun h_1 => ?_)
  · refine pw_iconst C dX10_isQuoted_49 ?_
    exact pw_zret C hr (by decide +kernel) dX10_isQuoted_50 ⟨rfl, by rw [show obQ X = false from by unfold obQ; rw [(obLen_car h_1).1, decide_eq_false (by decide +kernel)]; rfl]; rfl⟩
  · have hp := h_1
    have hcc := (hln o X ho).1 hp
    have hr1 := Vl.rg hR hcc.1
    have hr2 := Vl.rg hR hcc.2
    refine pw_aload_n (i := 0) C dX10_isQuoted_8 rfl rfl (Or.inr ⟨_, rfl⟩) ?_
    refine pw_get (j := 0) C cl_X10 fl_X10_8 (by decide) rfl h0 rfl dX10_isQuoted_9 ?_
    refine pw_stk (st' := [.ref (B 0)]) rfl ?_
    refine pw_iload_n (i := 1) C dX10_isQuoted_12 rfl rfl ?_
    have g_2 := m0 o
    refine pw_iald C l0 ⟨by omega, by omega, by omega⟩ dX10_isQuoted_13 ?_
    refine pw_iconst C dX10_isQuoted_14 ?_
    refine pw_icmp_ne (tgt := 49) C (by omega) (by omega) dX10_isQuoted_15 (by decide) (fun h_3 => ?_) (fun h_3 => ?_)
    · refine pw_iconst C dX10_isQuoted_49 ?_
      exact pw_zret C hr (by decide +kernel) dX10_isQuoted_50 ⟨rfl, by rw [show obQ X = false from by unfold obQ; rw [decide_eq_false (p := obCar X = oQuote) (fun e => absurd ((RS.inj hR hcc.1 (hK.v 2 (by decide))).mpr e) (by omega))]; rfl]; rfl⟩
    · have hq := (RS.inj hR hcc.1 (hK.v 2 (by decide))).mp (by omega)
      refine pw_aload_n (i := 0) C dX10_isQuoted_18 rfl rfl (Or.inr ⟨_, rfl⟩) ?_
      refine pw_aload_n (i := 0) C dX10_isQuoted_19 rfl rfl (Or.inr ⟨_, rfl⟩) ?_
      refine pw_get (j := 1) C cl_X10 fl_X10_14 (by decide) rfl h0 rfl dX10_isQuoted_20 ?_
      refine pw_stk (st' := [.ref (B 1), .ref b]) rfl ?_
      refine pw_iload_n (i := 1) C dX10_isQuoted_23 rfl rfl ?_
      have g_4 := m1 o
      refine pw_iald C l1 ⟨by omega, by omega, by omega⟩ dX10_isQuoted_24 ?_
      refine pw_callV (As := [.int (iZ (fR o))]) (st := []) C (m_X10_isPair g l h0 hR h7 h10 hcc.2) my_X10_isPair ml_X10_195 (pw_rec.of C h0 cl_X10.1) rfl ⟨Nat.le_of_ble_eq_true rfl, Nat.le_of_ble_eq_true rfl⟩ ⟨by (try dsimp only); omega, by (try dsimp only); omega⟩ rfl (Nat.le_of_ble_eq_true rfl) dX10_isQuoted_25 ?_
      rintro _ _ ⟨rfl, rfl⟩
      refine pw_stk (st' := [.int (iZ (b2i (obP (obCdr X))))]) rfl ?_
      refine pw_if_eqB (tgt := 49) C dX10_isQuoted_28 (by decide) (fun h_5 => ?_) (fun h_5 => ?_)
      · refine pw_iconst C dX10_isQuoted_49 ?_
        exact pw_zret C hr (by decide +kernel) dX10_isQuoted_50 ⟨rfl, by rw [show obQ X = false from by unfold obQ; rw [h_5, Bool.false_and, Bool.and_false]]; rfl⟩
      · have hp2 := h_5
        have hc2 := (hln _ _ hcc.2).1 hp2
        have hr3 := Vl.rg hR hc2.2
        refine pw_aload_n (i := 0) C dX10_isQuoted_31 rfl rfl (Or.inr ⟨_, rfl⟩) ?_
        refine pw_get (j := 1) C cl_X10 fl_X10_14 (by decide) rfl h0 rfl dX10_isQuoted_32 ?_
        refine pw_stk (st' := [.ref (B 1)]) rfl ?_
        refine pw_aload_n (i := 0) C dX10_isQuoted_35 rfl rfl (Or.inr ⟨_, rfl⟩) ?_
        refine pw_get (j := 1) C cl_X10 fl_X10_14 (by decide) rfl h0 rfl dX10_isQuoted_36 ?_
        refine pw_stk (st' := [.ref (B 1), .ref (B 1)]) rfl ?_
        refine pw_iload_n (i := 1) C dX10_isQuoted_39 rfl rfl ?_
        have g_6 := m1 o
        refine pw_iald C l1 ⟨by omega, by omega, by omega⟩ dX10_isQuoted_40 ?_
        have g_7 := m1 (fR o)
        refine pw_iald C l1 ⟨by omega, by omega, by omega⟩ dX10_isQuoted_41 ?_
        refine pw_if_ne (tgt := 49) C (by omega) dX10_isQuoted_42 (by decide) (fun h_8 => ?_) (fun h_8 => ?_)
        · refine pw_iconst C dX10_isQuoted_49 ?_
          exact pw_zret C hr (by decide +kernel) dX10_isQuoted_50 ⟨rfl, by rw [show obQ X = false from by unfold obQ; rw [decide_eq_false (p := obCdr (obCdr X) = oNil) (fun e => absurd ((RS.inj hR hc2.2 hK.nil).mpr e) (by omega)), Bool.and_false, Bool.and_false]]; rfl⟩
        · refine pw_iconst C dX10_isQuoted_45 ?_
          refine pw_goto (tgt := 50) C dX10_isQuoted_46 (by decide) ?_
          exact pw_zret C hr (by decide +kernel) dX10_isQuoted_50 ⟨rfl, by rw [show obQ X = true from by unfold obQ; rw [decide_eq_true (p := obCar X = oQuote) hq, hp2, decide_eq_true (p := obCdr (obCdr X) = oNil) ((RS.inj hR hc2.2 hK.nil).mp (by omega))]; rfl]; rfl⟩

