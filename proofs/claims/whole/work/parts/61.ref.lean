set_option maxRecDepth 100000 in
set_option maxHeartbeats 4000000 in
/-- slot -/
theorem m_X10_slot (g : pw_P) (l : Launch) {w : pw_W} {l1 r1 : Int} : pw_M g l yX10_slot cX10_slot 2 (some .int) { frames := 0, cells := 0, slots := 0, locals := 0 } [.int (iZ l1), .int (iZ r1)] w (fun r w' => w = w' ∧ r = some (.int (iZ (slM l1 r1)))) := by
  refine pw_M.of (by decide) (Nat.le_of_ble_eq_true rfl) rfl ?_
  intro p e s m args below meth c C hr hn
  refine pw_iload_n (i := 0) C dX10_slot_0 rfl rfl ?_
  refine pw_ldc (z := 40503) C ki_X10_156 (by decide) dX10_slot_1 ?_
  refine pw_imul C dX10_slot_3 ?_
  refine pw_iload_n (i := 1) C dX10_slot_4 rfl rfl ?_
  refine pw_sipush C dX10_slot_5 (by decide) ?_
  refine pw_imul C dX10_slot_8 ?_
  refine pw_iadd C dX10_slot_9 ?_
  refine pw_bipush C dX10_slot_10 (by decide) ?_
  refine pw_iadd C dX10_slot_12 ?_
  refine pw_iconst C dX10_slot_13 ?_
  refine pw_iushr (z := shrM (((l1 * 40503) + (r1 * 30011)) + 7)) C dX10_slot_14 (Int32.ofInt_toInt _).symm ?_
  refine pw_sipush C dX10_slot_15 (by decide) ?_
  refine pw_iand (z := (shrM (((l1 * 40503) + (r1 * 30011)) + 7)) % 8192) C dX10_slot_18 (iz_and8191 _) ?_
  exact pw_iret C hr dX10_slot_19 ⟨rfl, rfl⟩

set_option maxRecDepth 100000 in
set_option maxHeartbeats 4000000 in
/-- sp_word -/
theorem sp_word (g : pw_P) (l : Launch) {w : pw_W} {b : Nat} {B : Nat → Nat} {x : Nat → Int} (h0 : w 1000 = (b, some (mdE B x))) {fW : Int → Int} {m1 : Nat} (ha : w 1017 = (B 16, some (AI g 12 fW))) (hr1 : ∀ j, inI (fW j)) (hm : m1 ≤ 12) : pw_M g l yX10_spelled cX10_spelled 6 (some .int) { frames := 0, cells := 0, slots := 0, locals := 0 } [.ref b, .int (iZ 0), .int (iZ ((m1 : Nat) : Int)), .int (iZ 1)] w (fun r w' => w = w' ∧ r = some (.int (iZ (shW fW 0 m1 % 8192)))) := by
  refine pw_M.of (by decide) (Nat.le_of_ble_eq_true rfl) rfl ?_
  intro p e s m args below meth c C hr hn
  have loop : ∀ (kk k : Nat), k + kk = m1 → pw_G g p l e { frames := 0, cells := 0, slots := 0, locals := 0 } s m args below meth c 6 (pw_Q g below (fun r w' => w = w' ∧ r = some (.int (iZ (shW fW 0 m1 % 8192)))) args s { frames := 0, cells := 0, slots := 0, locals := 0 }) 0 0 6 [(0, .ref b), (1, .int (iZ 0)), (2, .int (iZ ((m1 : Nat) : Int))), (3, .int (iZ 1)), (4, .int (iZ (shW fW 0 k))), (5, .int (iZ ((k : Nat) : Int)))] [] w := by
    intro kk
    induction kk with
    | zero =>
      intro k hk
      refine pw_iload C dX10_spelled_6 rfl ?_
      refine pw_iload_n (i := 2) C dX10_spelled_8 rfl rfl ?_
      refine pw_icmp_ge (tgt := 50) C (by omega) (by omega) dX10_spelled_9 (by decide) (fun h_11 => ?_) (fun h_11 => ?_)
      · refine pw_iload C dX10_spelled_50 rfl ?_
        refine pw_sipush C dX10_spelled_52 (by decide) ?_
        refine pw_iand (z := (shW fW 0 k) % 8192) C dX10_spelled_55 (iz_and8191 _) ?_
        exact pw_iret C hr dX10_spelled_56 ⟨rfl, by rw [show k = m1 by omega]⟩
      · exfalso; omega
    | succ kk ih =>
      intro k hk
      refine pw_iload C dX10_spelled_6 rfl ?_
      refine pw_iload_n (i := 2) C dX10_spelled_8 rfl rfl ?_
      refine pw_icmp_ge (tgt := 50) C (by omega) (by omega) dX10_spelled_9 (by decide) (fun h_31 => ?_) (fun h_31 => ?_)
      · exfalso; omega
      · refine pw_sipush C dX10_spelled_12 (by decide) ?_
        refine pw_iload C dX10_spelled_15 rfl ?_
        refine pw_imul C dX10_spelled_17 ?_
        refine pw_iload_n (i := 3) C dX10_spelled_18 rfl rfl ?_
        refine pw_if_eq (tgt := 32) C (by omega) dX10_spelled_19 (by decide) (fun h_32 => ?_) (fun h_32 => ?_)
        · exfalso; omega
        · refine pw_aload_n (i := 0) C dX10_spelled_22 rfl rfl (Or.inr ⟨_, rfl⟩) ?_
          refine pw_get (j := 16) C cl_X10 fl_X10_49 (by decide) rfl h0 rfl dX10_spelled_23 ?_
          refine pw_stk (st' := [.ref (B 16), .int (iZ (131 * (shW fW 0 k)))]) rfl ?_
          refine pw_iload C dX10_spelled_26 rfl ?_
          have g_33 := hr1 ((k : Nat) : Int)
          refine pw_iald C ha ⟨by omega, by omega, by omega⟩ dX10_spelled_28 ?_
          refine pw_goto (tgt := 41) C dX10_spelled_29 (by decide) ?_
          refine pw_iadd C dX10_spelled_41 ?_
          refine pw_istore (lv' := [(0, .ref b), (1, .int (iZ 0)), (2, .int (iZ ((m1 : Nat) : Int))), (3, .int (iZ 1)), (4, .int (iZ ((131 * (shW fW 0 k)) + fW ((k : Nat) : Int)))), (5, .int (iZ ((k : Nat) : Int)))]) C dX10_spelled_42 (by decide) rfl ?_
          refine pw_iinc (lv' := [(0, .ref b), (1, .int (iZ 0)), (2, .int (iZ ((m1 : Nat) : Int))), (3, .int (iZ 1)), (4, .int (iZ ((131 * (shW fW 0 k)) + fW ((k : Nat) : Int)))), (5, .int (iZ (((k : Nat) : Int) + 1)))]) C dX10_spelled_44 rfl (by decide) rfl ?_
          refine pw_goto (tgt := 6) C dX10_spelled_47 (by decide) ?_
          rw [show ((k : Nat) : Int) + 1 = ((k + 1 : Nat) : Int) by omega]
          have hgo := ih (k + 1) (by omega)
          rw [show shW fW 0 (k + 1) = 131 * shW fW 0 k + fW ((k : Nat) : Int) by simp only [shW]; rw [Int.zero_add]] at hgo
          exact hgo
  refine pw_iconst C dX10_spelled_0 ?_
  refine pw_istore (lv' := [(0, .ref b), (1, .int (iZ 0)), (2, .int (iZ ((m1 : Nat) : Int))), (3, .int (iZ 1)), (4, .int (iZ 5))]) C dX10_spelled_1 (by decide) rfl ?_
  refine pw_iconst C dX10_spelled_3 ?_
  refine pw_istore (lv' := [(0, .ref b), (1, .int (iZ 0)), (2, .int (iZ ((m1 : Nat) : Int))), (3, .int (iZ 1)), (4, .int (iZ 5)), (5, .int (iZ 0))]) C dX10_spelled_4 (by decide) rfl ?_
  exact loop m1 0 (by omega)

set_option maxRecDepth 100000 in
set_option maxHeartbeats 4000000 in
/-- sp_name -/
theorem sp_name (g : pw_P) (l : Launch) {w : pw_W} {b : Nat} {B : Nat → Nat} {x : Nat → Int} (h0 : w 1000 = (b, some (mdE B x))) {fM : Int → Int} {m1 : Nat} (ha : w 1009 = (B 8, some (AI g 48000 fM))) (hr1 : ∀ j, inI (fM j)) {fr : Int} (hm : 0 ≤ fr ∧ fr + m1 ≤ 48000) : pw_M g l yX10_spelled cX10_spelled 6 (some .int) { frames := 0, cells := 0, slots := 0, locals := 0 } [.ref b, .int (iZ fr), .int (iZ ((m1 : Nat) : Int)), .int (iZ 0)] w (fun r w' => w = w' ∧ r = some (.int (iZ (shW fM fr m1 % 8192)))) := by
  refine pw_M.of (by decide) (Nat.le_of_ble_eq_true rfl) rfl ?_
  intro p e s m args below meth c C hr hn
  have loop : ∀ (kk k : Nat), k + kk = m1 → pw_G g p l e { frames := 0, cells := 0, slots := 0, locals := 0 } s m args below meth c 6 (pw_Q g below (fun r w' => w = w' ∧ r = some (.int (iZ (shW fM fr m1 % 8192)))) args s { frames := 0, cells := 0, slots := 0, locals := 0 }) 0 0 6 [(0, .ref b), (1, .int (iZ fr)), (2, .int (iZ ((m1 : Nat) : Int))), (3, .int (iZ 0)), (4, .int (iZ (shW fM fr k))), (5, .int (iZ ((k : Nat) : Int)))] [] w := by
    intro kk
    induction kk with
    | zero =>
      intro k hk
      refine pw_iload C dX10_spelled_6 rfl ?_
      refine pw_iload_n (i := 2) C dX10_spelled_8 rfl rfl ?_
      refine pw_icmp_ge (tgt := 50) C (by omega) (by omega) dX10_spelled_9 (by decide) (fun h_11 => ?_) (fun h_11 => ?_)
      · refine pw_iload C dX10_spelled_50 rfl ?_
        refine pw_sipush C dX10_spelled_52 (by decide) ?_
        refine pw_iand (z := (shW fM fr k) % 8192) C dX10_spelled_55 (iz_and8191 _) ?_
        exact pw_iret C hr dX10_spelled_56 ⟨rfl, by rw [show k = m1 by omega]⟩
      · exfalso; omega
    | succ kk ih =>
      intro k hk
      refine pw_iload C dX10_spelled_6 rfl ?_
      refine pw_iload_n (i := 2) C dX10_spelled_8 rfl rfl ?_
      refine pw_icmp_ge (tgt := 50) C (by omega) (by omega) dX10_spelled_9 (by decide) (fun h_31 => ?_) (fun h_31 => ?_)
      · exfalso; omega
      · refine pw_sipush C dX10_spelled_12 (by decide) ?_
        refine pw_iload C dX10_spelled_15 rfl ?_
        refine pw_imul C dX10_spelled_17 ?_
        refine pw_iload_n (i := 3) C dX10_spelled_18 rfl rfl ?_
        refine pw_if_eq (tgt := 32) C (by omega) dX10_spelled_19 (by decide) (fun h_32 => ?_) (fun h_32 => ?_)
        · refine pw_aload_n (i := 0) C dX10_spelled_32 rfl rfl (Or.inr ⟨_, rfl⟩) ?_
          refine pw_get (j := 8) C cl_X10 fl_X10_34 (by decide) rfl h0 rfl dX10_spelled_33 ?_
          refine pw_stk (st' := [.ref (B 8), .int (iZ (131 * (shW fM fr k)))]) rfl ?_
          refine pw_iload_n (i := 1) C dX10_spelled_36 rfl rfl ?_
          refine pw_iload C dX10_spelled_37 rfl ?_
          refine pw_iadd C dX10_spelled_39 ?_
          have g_33 := hr1 (fr + ((k : Nat) : Int))
          refine pw_iald C ha ⟨by omega, by omega, by omega⟩ dX10_spelled_40 ?_
          refine pw_iadd C dX10_spelled_41 ?_
          refine pw_istore (lv' := [(0, .ref b), (1, .int (iZ fr)), (2, .int (iZ ((m1 : Nat) : Int))), (3, .int (iZ 0)), (4, .int (iZ ((131 * (shW fM fr k)) + fM (fr + ((k : Nat) : Int))))), (5, .int (iZ ((k : Nat) : Int)))]) C dX10_spelled_42 (by decide) rfl ?_
          refine pw_iinc (lv' := [(0, .ref b), (1, .int (iZ fr)), (2, .int (iZ ((m1 : Nat) : Int))), (3, .int (iZ 0)), (4, .int (iZ ((131 * (shW fM fr k)) + fM (fr + ((k : Nat) : Int))))), (5, .int (iZ (((k : Nat) : Int) + 1)))]) C dX10_spelled_44 rfl (by decide) rfl ?_
          refine pw_goto (tgt := 6) C dX10_spelled_47 (by decide) ?_
          rw [show ((k : Nat) : Int) + 1 = ((k + 1 : Nat) : Int) by omega]
          exact ih (k + 1) (by omega)
        · exfalso; omega
  refine pw_iconst C dX10_spelled_0 ?_
  refine pw_istore (lv' := [(0, .ref b), (1, .int (iZ fr)), (2, .int (iZ ((m1 : Nat) : Int))), (3, .int (iZ 0)), (4, .int (iZ 5))]) C dX10_spelled_1 (by decide) rfl ?_
  refine pw_iconst C dX10_spelled_3 ?_
  refine pw_istore (lv' := [(0, .ref b), (1, .int (iZ fr)), (2, .int (iZ ((m1 : Nat) : Int))), (3, .int (iZ 0)), (4, .int (iZ 5)), (5, .int (iZ 0))]) C dX10_spelled_4 (by decide) rfl ?_
  exact loop m1 0 (by omega)

theorem ndM.p {fL fR fH fV fM fE : Int → Int} {t : Int → Ob} {k : Int} (h : ndM fL fR fH fV fM fE t k) : obP (t k) = decide (0 ≤ fL k) ∧ obN (t k) = decide (fL k = -1) ∧ obS (t k) = decide (fL k = -2) := by
  rcases h with d | d | d
  · rw [d.2.2.2.1, d.1]; exact ⟨rfl, rfl, rfl⟩
  · rw [d.2.2.2.2.1, d.1]; exact ⟨rfl, rfl, rfl⟩
  · rw [d.2.2.2.2.1]; have := d.1; exact ⟨(decide_eq_true this).symm, (decide_eq_false (by omega)).symm, (decide_eq_false (by omega)).symm⟩
theorem ndM.pair {fL fR fH fV fM fE : Int → Int} {t : Int → Ob} {k : Int} (h : ndM fL fR fH fV fM fE t k) (hp : 0 ≤ fL k) : fL k < k ∧ 0 ≤ fR k ∧ fR k < k ∧ t k = .add (t (fL k)) (t (fR k)) := by
  rcases h with d | d | d
  · omega
  · omega
  · exact ⟨d.2.1, d.2.2.1, d.2.2.2.1, d.2.2.2.2.1⟩
set_option maxRecDepth 100000 in
set_option maxHeartbeats 4000000 in
/-- X10_isPair -/
theorem m_X10_isPair (g : pw_P) (l : Launch) {w : pw_W} {b : Nat} {B : Nat → Nat} {x : Nat → Int} (h0 : w 1000 = (b, some (mdE B x))) {t : Int → Ob} {n : Int} {sN : Nat} {fZ : Int → Int} (hR : RS g w B t n sN fZ) (h7 : x 7 = n) (h10 : x 10 = ((sN : Nat) : Int)) {o : Int} {X : Ob} (ho : Vl t n o X) : pw_M g l yX10_isPair cX10_isPair 2 (some .boolean) { frames := 0, cells := 0, slots := 0, locals := 0 } [.ref b, .int (iZ o)] w (fun r w' => w = w' ∧ r = some (.int (iZ (b2i (obP X))))) := by
  refine pw_M.of (by decide) (Nat.le_of_ble_eq_true rfl) rfl ?_
  intro p e s m args below meth c C hr hn
  obtain ⟨fL, fR, fN, fH, fV, fD, fM, fE, a0, a1, a2, a3, a4, a5, a6, a8, a9, ⟨u0, u1, u2, u3, u4, u5, u6, u8, u9⟩, hn, hs, hs4, hC⟩ := id hR
  have hor := ho.1
  have hor2 := ho.2.1
  have hnd := hC.1 o ho.1 ho.2.1
  refine pw_aload_n (i := 0) C dX10_isPair_0 rfl rfl (Or.inr ⟨_, rfl⟩) ?_
  refine pw_get (j := 0) C cl_X10 fl_X10_8 (by decide) rfl h0 rfl dX10_isPair_1 ?_
  refine pw_stk (st' := [.ref (B 0)]) rfl ?_
  refine pw_iload_n (i := 1) C dX10_isPair_4 rfl rfl ?_
  have g_1 := u0 o
  refine pw_iald C a0 ⟨by omega, by omega, by omega⟩ dX10_isPair_5 ?_
  refine pw_if_lt (tgt := 13) C (by omega) dX10_isPair_6 (by decide) (fun h_2 => ?_) (fun h_2 => ?_)
  · refine pw_iconst C dX10_isPair_13 ?_
    exact pw_zret C hr (by decide +kernel) dX10_isPair_14 ⟨rfl, by rw [show obP X = false from by rw [← ho.2.2, hnd.p.1]; exact decide_eq_false (by omega)]; rfl⟩
  · refine pw_iconst C dX10_isPair_9 ?_
    refine pw_goto (tgt := 14) C dX10_isPair_10 (by decide) ?_
    exact pw_zret C hr (by decide +kernel) dX10_isPair_14 ⟨rfl, by rw [show obP X = true from by rw [← ho.2.2, hnd.p.1]; exact decide_eq_true (by omega)]; rfl⟩

set_option maxRecDepth 100000 in
set_option maxHeartbeats 4000000 in
/-- X10_isNatural -/
theorem m_X10_isNatural (g : pw_P) (l : Launch) {w : pw_W} {b : Nat} {B : Nat → Nat} {x : Nat → Int} (h0 : w 1000 = (b, some (mdE B x))) {t : Int → Ob} {n : Int} {sN : Nat} {fZ : Int → Int} (hR : RS g w B t n sN fZ) (h7 : x 7 = n) (h10 : x 10 = ((sN : Nat) : Int)) {o : Int} {X : Ob} (ho : Vl t n o X) : pw_M g l yX10_isNatural cX10_isNatural 2 (some .boolean) { frames := 0, cells := 0, slots := 0, locals := 0 } [.ref b, .int (iZ o)] w (fun r w' => w = w' ∧ r = some (.int (iZ (b2i (obN X))))) := by
  refine pw_M.of (by decide) (Nat.le_of_ble_eq_true rfl) rfl ?_
  intro p e s m args below meth c C hr hn
  obtain ⟨fL, fR, fN, fH, fV, fD, fM, fE, a0, a1, a2, a3, a4, a5, a6, a8, a9, ⟨u0, u1, u2, u3, u4, u5, u6, u8, u9⟩, hn, hs, hs4, hC⟩ := id hR
  have hor := ho.1
  have hor2 := ho.2.1
  have hnd := hC.1 o ho.1 ho.2.1
  refine pw_aload_n (i := 0) C dX10_isNatural_0 rfl rfl (Or.inr ⟨_, rfl⟩) ?_
  refine pw_get (j := 0) C cl_X10 fl_X10_8 (by decide) rfl h0 rfl dX10_isNatural_1 ?_
  refine pw_stk (st' := [.ref (B 0)]) rfl ?_
  refine pw_iload_n (i := 1) C dX10_isNatural_4 rfl rfl ?_
  have g_1 := u0 o
  refine pw_iald C a0 ⟨by omega, by omega, by omega⟩ dX10_isNatural_5 ?_
  refine pw_iconst C dX10_isNatural_6 ?_
  refine pw_icmp_ne (tgt := 14) C (by omega) (by omega) dX10_isNatural_7 (by decide) (fun h_2 => ?_) (fun h_2 => ?_)
  · refine pw_iconst C dX10_isNatural_14 ?_
    exact pw_zret C hr (by decide +kernel) dX10_isNatural_15 ⟨rfl, by rw [show obN X = false from by rw [← ho.2.2, hnd.p.2.1]; exact decide_eq_false (by omega)]; rfl⟩
  · refine pw_iconst C dX10_isNatural_10 ?_
    refine pw_goto (tgt := 15) C dX10_isNatural_11 (by decide) ?_
    exact pw_zret C hr (by decide +kernel) dX10_isNatural_15 ⟨rfl, by rw [show obN X = true from by rw [← ho.2.2, hnd.p.2.1]; exact decide_eq_true (by omega)]; rfl⟩

set_option maxRecDepth 100000 in
set_option maxHeartbeats 4000000 in
/-- X10_isSymbol -/
theorem m_X10_isSymbol (g : pw_P) (l : Launch) {w : pw_W} {b : Nat} {B : Nat → Nat} {x : Nat → Int} (h0 : w 1000 = (b, some (mdE B x))) {t : Int → Ob} {n : Int} {sN : Nat} {fZ : Int → Int} (hR : RS g w B t n sN fZ) (h7 : x 7 = n) (h10 : x 10 = ((sN : Nat) : Int)) {o : Int} {X : Ob} (ho : Vl t n o X) : pw_M g l yX10_isSymbol cX10_isSymbol 2 (some .boolean) { frames := 0, cells := 0, slots := 0, locals := 0 } [.ref b, .int (iZ o)] w (fun r w' => w = w' ∧ r = some (.int (iZ (b2i (obS X))))) := by
  refine pw_M.of (by decide) (Nat.le_of_ble_eq_true rfl) rfl ?_
  intro p e s m args below meth c C hr hn
  obtain ⟨fL, fR, fN, fH, fV, fD, fM, fE, a0, a1, a2, a3, a4, a5, a6, a8, a9, ⟨u0, u1, u2, u3, u4, u5, u6, u8, u9⟩, hn, hs, hs4, hC⟩ := id hR
  have hor := ho.1
  have hor2 := ho.2.1
  have hnd := hC.1 o ho.1 ho.2.1
  refine pw_aload_n (i := 0) C dX10_isSymbol_0 rfl rfl (Or.inr ⟨_, rfl⟩) ?_
  refine pw_get (j := 0) C cl_X10 fl_X10_8 (by decide) rfl h0 rfl dX10_isSymbol_1 ?_
  refine pw_stk (st' := [.ref (B 0)]) rfl ?_
  refine pw_iload_n (i := 1) C dX10_isSymbol_4 rfl rfl ?_
  have g_1 := u0 o
  refine pw_iald C a0 ⟨by omega, by omega, by omega⟩ dX10_isSymbol_5 ?_
  refine pw_bipush C dX10_isSymbol_6 (by decide) ?_
  refine pw_icmp_ne (tgt := 15) C (by omega) (by omega) dX10_isSymbol_8 (by decide) (fun h_2 => ?_) (fun h_2 => ?_)
  · refine pw_iconst C dX10_isSymbol_15 ?_
    exact pw_zret C hr (by decide +kernel) dX10_isSymbol_16 ⟨rfl, by rw [show obS X = false from by rw [← ho.2.2, hnd.p.2.2]; exact decide_eq_false (by omega)]; rfl⟩
  · refine pw_iconst C dX10_isSymbol_11 ?_
    refine pw_goto (tgt := 16) C dX10_isSymbol_12 (by decide) ?_
    exact pw_zret C hr (by decide +kernel) dX10_isSymbol_16 ⟨rfl, by rw [show obS X = true from by rw [← ho.2.2, hnd.p.2.2]; exact decide_eq_true (by omega)]; rfl⟩

set_option maxRecDepth 100000 in
set_option maxHeartbeats 4000000 in
/-- added -/
theorem m_X10_added (g : pw_P) (l : Launch) {w : pw_W} {b : Nat} {B : Nat → Nat} {x : Nat → Int} (h0 : w 1000 = (b, some (mdE B x))) {n : Int} (h7 : x 7 = n) {fL fR fN fZ fH fD : Int → Int} (a0 : w 1001 = (B 0, some (AI g 40000 fL))) (a1 : w 1002 = (B 1, some (AI g 40000 fR))) (a2 : w 1003 = (B 2, some (AI g 40000 fN))) (a3 : w 1004 = (B 3, some (AI g 40000 fZ))) (a4 : w 1005 = (B 4, some (AI g 40000 fH))) (a6 : w 1007 = (B 6, some (AI g 8192 fD))) (u0 : ∀ j, inI (fL j)) (u1 : ∀ j, inI (fR j)) (u2 : ∀ j, inI (fN j)) (u3 : ∀ j, inI (fZ j)) (u4 : ∀ j, inI (fH j)) (u6 : ∀ j, inI (fD j)) {l1 r1 h1 : Int} (hn : 0 ≤ n ∧ n < 40000) (hl : -2 ≤ l1 ∧ l1 < n) (hr1 : inI r1) (hlr : 0 ≤ l1 → 0 ≤ r1 ∧ r1 < n) (hh : 0 ≤ h1 ∧ h1 < 8192) : pw_M g l yX10_added cX10_added 4 (some .int) { frames := 0, cells := 0, slots := 0, locals := 0 } [.ref b, .int (iZ l1), .int (iZ r1), .int (iZ h1)] w (fun r w' => r = some (.int (iZ n)) ∧ w' 1000 = (b, some (mdE B (va_up x 7 (n + 1)))) ∧ w' 1001 = (B 0, some (AI g 40000 (upz fL n l1))) ∧ w' 1002 = (B 1, some (AI g 40000 (upz fR n r1))) ∧ w' 1003 = (B 2, some (AI g 40000 (upz fN n (fD h1)))) ∧ w' 1004 = (B 3, some (AI g 40000 (upz fZ n 0))) ∧ w' 1005 = (B 4, some (AI g 40000 (upz fH n (if l1 < 0 then 0 else 1 + (if fH r1 < fH l1 then fH l1 else fH r1))))) ∧ w' 1007 = (B 6, some (AI g 8192 (upz fD h1 n))) ∧ ∀ k, (k ≠ 1000 ∧ k ≠ 1001 ∧ k ≠ 1002 ∧ k ≠ 1003 ∧ k ≠ 1004 ∧ k ≠ 1005 ∧ k ≠ 1007) → w' k = w k) := by
  refine pw_M.of (by decide) (Nat.le_of_ble_eq_true rfl) rfl ?_
  intro p e s m args below meth c C hr hn
  refine pw_aload_n (i := 0) C dX10_added_0 rfl rfl (Or.inr ⟨_, rfl⟩) ?_
  refine pw_get (j := 0) C cl_X10 fl_X10_8 (by decide) rfl h0 rfl dX10_added_1 ?_
  refine pw_stk (st' := [.ref (B 0)]) rfl ?_
  refine pw_aload_n (i := 0) C dX10_added_4 rfl rfl (Or.inr ⟨_, rfl⟩) ?_
  refine pw_get (j := 7) C cl_X10 fl_X10_165 (by decide) rfl h0 rfl dX10_added_5 ?_
  refine pw_stk (st' := [.int (iZ n), .ref (B 0)]) (by rw [h7]) ?_
  refine pw_iload_n (i := 1) C dX10_added_8 rfl rfl ?_
  refine pw_iast C a0 ⟨by omega, by omega, by omega⟩ dX10_added_9 (fun w_3 k_1 o_2 => ?_)
  refine pw_aload_n (i := 0) C dX10_added_10 rfl rfl (Or.inr ⟨_, rfl⟩) ?_
  have c_4 := (o_2 1000 (by omega)).trans h0
  refine pw_get (j := 1) C cl_X10 fl_X10_14 (by decide) rfl c_4 rfl dX10_added_11 ?_
  refine pw_stk (st' := [.ref (B 1)]) rfl ?_
  refine pw_aload_n (i := 0) C dX10_added_14 rfl rfl (Or.inr ⟨_, rfl⟩) ?_
  refine pw_get (j := 7) C cl_X10 fl_X10_165 (by decide) rfl c_4 rfl dX10_added_15 ?_
  refine pw_stk (st' := [.int (iZ n), .ref (B 1)]) (by rw [h7]) ?_
  refine pw_iload_n (i := 2) C dX10_added_18 rfl rfl ?_
  have c_5 := (o_2 1002 (by omega)).trans a1
  refine pw_iast C c_5 ⟨by omega, by omega, by omega⟩ dX10_added_19 (fun w_8 k_6 o_7 => ?_)
  refine pw_aload_n (i := 0) C dX10_added_20 rfl rfl (Or.inr ⟨_, rfl⟩) ?_
  have c_9 := (o_7 1000 (by omega)).trans c_4
  refine pw_get (j := 2) C cl_X10 fl_X10_17 (by decide) rfl c_9 rfl dX10_added_21 ?_
  refine pw_stk (st' := [.ref (B 2)]) rfl ?_
  refine pw_aload_n (i := 0) C dX10_added_24 rfl rfl (Or.inr ⟨_, rfl⟩) ?_
  refine pw_get (j := 7) C cl_X10 fl_X10_165 (by decide) rfl c_9 rfl dX10_added_25 ?_
  refine pw_stk (st' := [.int (iZ n), .ref (B 2)]) (by rw [h7]) ?_
  refine pw_aload_n (i := 0) C dX10_added_28 rfl rfl (Or.inr ⟨_, rfl⟩) ?_
  refine pw_get (j := 6) C cl_X10 fl_X10_30 (by decide) rfl c_9 rfl dX10_added_29 ?_
  refine pw_stk (st' := [.ref (B 6), .int (iZ n), .ref (B 2)]) rfl ?_
  refine pw_iload_n (i := 3) C dX10_added_32 rfl rfl ?_
  have c_10 := ((o_7 1007 (by omega)).trans (o_2 1007 (by omega))).trans a6
  have g_11 := u6 h1
  refine pw_iald C c_10 ⟨by omega, by omega, by omega⟩ dX10_added_33 ?_
  have c_12 := ((o_7 1003 (by omega)).trans (o_2 1003 (by omega))).trans a2
  refine pw_iast C c_12 ⟨by omega, by omega, by omega⟩ dX10_added_34 (fun w_15 k_13 o_14 => ?_)
  refine pw_aload_n (i := 0) C dX10_added_35 rfl rfl (Or.inr ⟨_, rfl⟩) ?_
  have c_16 := (o_14 1000 (by omega)).trans c_9
  refine pw_get (j := 3) C cl_X10 fl_X10_20 (by decide) rfl c_16 rfl dX10_added_36 ?_
  refine pw_stk (st' := [.ref (B 3)]) rfl ?_
  refine pw_aload_n (i := 0) C dX10_added_39 rfl rfl (Or.inr ⟨_, rfl⟩) ?_
  refine pw_get (j := 7) C cl_X10 fl_X10_165 (by decide) rfl c_16 rfl dX10_added_40 ?_
  refine pw_stk (st' := [.int (iZ n), .ref (B 3)]) (by rw [h7]) ?_
  refine pw_iconst C dX10_added_43 ?_
  have c_17 := ((o_14 1004 (by omega)).trans ((o_7 1004 (by omega)).trans (o_2 1004 (by omega)))).trans a3
  refine pw_iast C c_17 ⟨by omega, by omega, by omega⟩ dX10_added_44 (fun w_20 k_18 o_19 => ?_)
  refine pw_aload_n (i := 0) C dX10_added_45 rfl rfl (Or.inr ⟨_, rfl⟩) ?_
  have c_21 := (o_19 1000 (by omega)).trans c_16
  refine pw_get (j := 4) C cl_X10 fl_X10_23 (by decide) rfl c_21 rfl dX10_added_46 ?_
  refine pw_stk (st' := [.ref (B 4)]) rfl ?_
  refine pw_aload_n (i := 0) C dX10_added_49 rfl rfl (Or.inr ⟨_, rfl⟩) ?_
  refine pw_get (j := 7) C cl_X10 fl_X10_165 (by decide) rfl c_21 rfl dX10_added_50 ?_
  refine pw_stk (st' := [.int (iZ n), .ref (B 4)]) (by rw [h7]) ?_
  refine pw_iload_n (i := 1) C dX10_added_53 rfl rfl ?_
  refine pw_if_ge (tgt := 61) C (by omega) dX10_added_54 (by decide) (fun h_22 => ?_) (fun h_22 => ?_)
  · refine pw_iconst C dX10_added_61 ?_
    refine pw_aload_n (i := 0) C dX10_added_62 rfl rfl (Or.inr ⟨_, rfl⟩) ?_
    refine pw_get (j := 4) C cl_X10 fl_X10_23 (by decide) rfl c_21 rfl dX10_added_63 ?_
    refine pw_stk (st' := [.ref (B 4), .int (iZ 1), .int (iZ n), .ref (B 4)]) rfl ?_
    refine pw_iload_n (i := 1) C dX10_added_66 rfl rfl ?_
    have c_23 := ((o_19 1005 (by omega)).trans ((o_14 1005 (by omega)).trans ((o_7 1005 (by omega)).trans (o_2 1005 (by omega))))).trans a4
    have g_24 := u4 l1
    refine pw_iald C c_23 ⟨by omega, by omega, by omega⟩ dX10_added_67 ?_
    refine pw_aload_n (i := 0) C dX10_added_68 rfl rfl (Or.inr ⟨_, rfl⟩) ?_
    refine pw_get (j := 4) C cl_X10 fl_X10_23 (by decide) rfl c_21 rfl dX10_added_69 ?_
    refine pw_stk (st' := [.ref (B 4), .int (iZ (fH l1)), .int (iZ 1), .int (iZ n), .ref (B 4)]) rfl ?_
    refine pw_iload_n (i := 2) C dX10_added_72 rfl rfl ?_
    have g_25 := u4 r1
    refine pw_iald C c_23 ⟨by omega, by omega, by omega⟩ dX10_added_73 ?_
    refine pw_icmp_le (tgt := 86) C (by omega) (by omega) dX10_added_74 (by decide) (fun h_26 => ?_) (fun h_26 => ?_)
    · refine pw_aload_n (i := 0) C dX10_added_86 rfl rfl (Or.inr ⟨_, rfl⟩) ?_
      refine pw_get (j := 4) C cl_X10 fl_X10_23 (by decide) rfl c_21 rfl dX10_added_87 ?_
      refine pw_stk (st' := [.ref (B 4), .int (iZ 1), .int (iZ n), .ref (B 4)]) rfl ?_
      refine pw_iload_n (i := 2) C dX10_added_90 rfl rfl ?_
      have g_27 := u4 r1
      refine pw_iald C c_23 ⟨by omega, by omega, by omega⟩ dX10_added_91 ?_
      refine pw_iadd C dX10_added_92 ?_
      refine pw_iast C c_23 ⟨by omega, by omega, by omega⟩ dX10_added_93 (fun w_30 k_28 o_29 => ?_)
      refine pw_aload_n (i := 0) C dX10_added_94 rfl rfl (Or.inr ⟨_, rfl⟩) ?_
      have c_31 := (o_29 1000 (by omega)).trans c_21
      refine pw_get (j := 6) C cl_X10 fl_X10_30 (by decide) rfl c_31 rfl dX10_added_95 ?_
      refine pw_stk (st' := [.ref (B 6)]) rfl ?_
      refine pw_iload_n (i := 3) C dX10_added_98 rfl rfl ?_
      refine pw_aload_n (i := 0) C dX10_added_99 rfl rfl (Or.inr ⟨_, rfl⟩) ?_
      refine pw_get (j := 7) C cl_X10 fl_X10_165 (by decide) rfl c_31 rfl dX10_added_100 ?_
      refine pw_stk (st' := [.int (iZ n), .int (iZ h1), .ref (B 6)]) (by rw [h7]) ?_
      have c_32 := ((o_29 1007 (by omega)).trans ((o_19 1007 (by omega)).trans (o_14 1007 (by omega)))).trans c_10
      refine pw_iast C c_32 ⟨by omega, by omega, by omega⟩ dX10_added_103 (fun w_35 k_33 o_34 => ?_)
      refine pw_aload_n (i := 0) C dX10_added_104 rfl rfl (Or.inr ⟨_, rfl⟩) ?_
      refine pw_dup C dX10_added_105 rfl ?_
      have c_36 := (o_34 1000 (by omega)).trans c_31
      refine pw_get (j := 7) C cl_X10 fl_X10_165 (by decide) rfl c_36 rfl dX10_added_106 ?_
      refine pw_stk (st' := [.int (iZ n), .ref b]) (by rw [h7]) ?_
      refine pw_iconst C dX10_added_109 ?_
      refine pw_iadd C dX10_added_110 ?_
      refine pw_put (j := 7) C cl_X10 fl_X10_165 (by decide) rfl rfl rfl rfl rfl c_36 (Nat.le_of_ble_eq_true rfl) dX10_added_111 (fun w_39 k_37 o_38 => ?_)
      have k_40 : w_39 1000 = (b, some (mdE B (va_up x 7 (n + 1)))) := k_37
      refine pw_aload_n (i := 0) C dX10_added_114 rfl rfl (Or.inr ⟨_, rfl⟩) ?_
      refine pw_get (j := 7) C cl_X10 fl_X10_165 (by decide) rfl k_40 rfl dX10_added_115 ?_
      refine pw_stk (st' := [.int (iZ (n + 1))]) rfl ?_
      refine pw_iconst C dX10_added_118 ?_
      refine pw_isub C dX10_added_119 ?_
      have c_41 := ((o_38 1001 (by omega)).trans ((o_34 1001 (by omega)).trans ((o_29 1001 (by omega)).trans ((o_19 1001 (by omega)).trans ((o_14 1001 (by omega)).trans (o_7 1001 (by omega))))))).trans k_1
      have c_42 := ((o_38 1002 (by omega)).trans ((o_34 1002 (by omega)).trans ((o_29 1002 (by omega)).trans ((o_19 1002 (by omega)).trans (o_14 1002 (by omega)))))).trans k_6
      have c_43 := ((o_38 1003 (by omega)).trans ((o_34 1003 (by omega)).trans ((o_29 1003 (by omega)).trans (o_19 1003 (by omega))))).trans k_13
      have c_44 := ((o_38 1004 (by omega)).trans ((o_34 1004 (by omega)).trans (o_29 1004 (by omega)))).trans k_18
      have c_45 := ((o_38 1005 (by omega)).trans (o_34 1005 (by omega))).trans k_28
      have c_46 := (o_38 1007 (by omega)).trans k_33
      exact pw_iret C hr dX10_added_120 ⟨by rw [show n + 1 - 1 = n by omega], k_40, c_41, c_42, c_43, c_44, by rw [if_neg (by omega), if_neg (by omega)]; exact c_45, c_46, fun k hk => (o_38 k (by omega)).trans ((o_34 k (by omega)).trans ((o_29 k (by omega)).trans ((o_19 k (by omega)).trans ((o_14 k (by omega)).trans ((o_7 k (by omega)).trans (o_2 k (by omega)))))))⟩
    · refine pw_aload_n (i := 0) C dX10_added_77 rfl rfl (Or.inr ⟨_, rfl⟩) ?_
      refine pw_get (j := 4) C cl_X10 fl_X10_23 (by decide) rfl c_21 rfl dX10_added_78 ?_
      refine pw_stk (st' := [.ref (B 4), .int (iZ 1), .int (iZ n), .ref (B 4)]) rfl ?_
      refine pw_iload_n (i := 1) C dX10_added_81 rfl rfl ?_
      have g_47 := u4 l1
      refine pw_iald C c_23 ⟨by omega, by omega, by omega⟩ dX10_added_82 ?_
      refine pw_goto (tgt := 92) C dX10_added_83 (by decide) ?_
      refine pw_iadd C dX10_added_92 ?_
      refine pw_iast C c_23 ⟨by omega, by omega, by omega⟩ dX10_added_93 (fun w_50 k_48 o_49 => ?_)
      refine pw_aload_n (i := 0) C dX10_added_94 rfl rfl (Or.inr ⟨_, rfl⟩) ?_
      have c_51 := (o_49 1000 (by omega)).trans c_21
      refine pw_get (j := 6) C cl_X10 fl_X10_30 (by decide) rfl c_51 rfl dX10_added_95 ?_
      refine pw_stk (st' := [.ref (B 6)]) rfl ?_
      refine pw_iload_n (i := 3) C dX10_added_98 rfl rfl ?_
      refine pw_aload_n (i := 0) C dX10_added_99 rfl rfl (Or.inr ⟨_, rfl⟩) ?_
      refine pw_get (j := 7) C cl_X10 fl_X10_165 (by decide) rfl c_51 rfl dX10_added_100 ?_
      refine pw_stk (st' := [.int (iZ n), .int (iZ h1), .ref (B 6)]) (by rw [h7]) ?_
      have c_52 := ((o_49 1007 (by omega)).trans ((o_19 1007 (by omega)).trans (o_14 1007 (by omega)))).trans c_10
      refine pw_iast C c_52 ⟨by omega, by omega, by omega⟩ dX10_added_103 (fun w_55 k_53 o_54 => ?_)
      refine pw_aload_n (i := 0) C dX10_added_104 rfl rfl (Or.inr ⟨_, rfl⟩) ?_
      refine pw_dup C dX10_added_105 rfl ?_
      have c_56 := (o_54 1000 (by omega)).trans c_51
      refine pw_get (j := 7) C cl_X10 fl_X10_165 (by decide) rfl c_56 rfl dX10_added_106 ?_
      refine pw_stk (st' := [.int (iZ n), .ref b]) (by rw [h7]) ?_
      refine pw_iconst C dX10_added_109 ?_
      refine pw_iadd C dX10_added_110 ?_
      refine pw_put (j := 7) C cl_X10 fl_X10_165 (by decide) rfl rfl rfl rfl rfl c_56 (Nat.le_of_ble_eq_true rfl) dX10_added_111 (fun w_59 k_57 o_58 => ?_)
      have k_60 : w_59 1000 = (b, some (mdE B (va_up x 7 (n + 1)))) := k_57
      refine pw_aload_n (i := 0) C dX10_added_114 rfl rfl (Or.inr ⟨_, rfl⟩) ?_
      refine pw_get (j := 7) C cl_X10 fl_X10_165 (by decide) rfl k_60 rfl dX10_added_115 ?_
      refine pw_stk (st' := [.int (iZ (n + 1))]) rfl ?_
      refine pw_iconst C dX10_added_118 ?_
      refine pw_isub C dX10_added_119 ?_
      have c_61 := ((o_58 1001 (by omega)).trans ((o_54 1001 (by omega)).trans ((o_49 1001 (by omega)).trans ((o_19 1001 (by omega)).trans ((o_14 1001 (by omega)).trans (o_7 1001 (by omega))))))).trans k_1
      have c_62 := ((o_58 1002 (by omega)).trans ((o_54 1002 (by omega)).trans ((o_49 1002 (by omega)).trans ((o_19 1002 (by omega)).trans (o_14 1002 (by omega)))))).trans k_6
      have c_63 := ((o_58 1003 (by omega)).trans ((o_54 1003 (by omega)).trans ((o_49 1003 (by omega)).trans (o_19 1003 (by omega))))).trans k_13
      have c_64 := ((o_58 1004 (by omega)).trans ((o_54 1004 (by omega)).trans (o_49 1004 (by omega)))).trans k_18
      have c_65 := ((o_58 1005 (by omega)).trans (o_54 1005 (by omega))).trans k_48
      have c_66 := (o_58 1007 (by omega)).trans k_53
      exact pw_iret C hr dX10_added_120 ⟨by rw [show n + 1 - 1 = n by omega], k_60, c_61, c_62, c_63, c_64, by rw [if_neg (by omega), if_pos (by omega)]; exact c_65, c_66, fun k hk => (o_58 k (by omega)).trans ((o_54 k (by omega)).trans ((o_49 k (by omega)).trans ((o_19 k (by omega)).trans ((o_14 k (by omega)).trans ((o_7 k (by omega)).trans (o_2 k (by omega)))))))⟩
  · refine pw_iconst C dX10_added_57 ?_
    refine pw_goto (tgt := 93) C dX10_added_58 (by decide) ?_
    have c_67 := ((o_19 1005 (by omega)).trans ((o_14 1005 (by omega)).trans ((o_7 1005 (by omega)).trans (o_2 1005 (by omega))))).trans a4
    refine pw_iast C c_67 ⟨by omega, by omega, by omega⟩ dX10_added_93 (fun w_70 k_68 o_69 => ?_)
    refine pw_aload_n (i := 0) C dX10_added_94 rfl rfl (Or.inr ⟨_, rfl⟩) ?_
    have c_71 := (o_69 1000 (by omega)).trans c_21
    refine pw_get (j := 6) C cl_X10 fl_X10_30 (by decide) rfl c_71 rfl dX10_added_95 ?_
    refine pw_stk (st' := [.ref (B 6)]) rfl ?_
    refine pw_iload_n (i := 3) C dX10_added_98 rfl rfl ?_
    refine pw_aload_n (i := 0) C dX10_added_99 rfl rfl (Or.inr ⟨_, rfl⟩) ?_
    refine pw_get (j := 7) C cl_X10 fl_X10_165 (by decide) rfl c_71 rfl dX10_added_100 ?_
    refine pw_stk (st' := [.int (iZ n), .int (iZ h1), .ref (B 6)]) (by rw [h7]) ?_
    have c_72 := ((o_69 1007 (by omega)).trans ((o_19 1007 (by omega)).trans (o_14 1007 (by omega)))).trans c_10
    refine pw_iast C c_72 ⟨by omega, by omega, by omega⟩ dX10_added_103 (fun w_75 k_73 o_74 => ?_)
    refine pw_aload_n (i := 0) C dX10_added_104 rfl rfl (Or.inr ⟨_, rfl⟩) ?_
    refine pw_dup C dX10_added_105 rfl ?_
    have c_76 := (o_74 1000 (by omega)).trans c_71
    refine pw_get (j := 7) C cl_X10 fl_X10_165 (by decide) rfl c_76 rfl dX10_added_106 ?_
    refine pw_stk (st' := [.int (iZ n), .ref b]) (by rw [h7]) ?_
    refine pw_iconst C dX10_added_109 ?_
    refine pw_iadd C dX10_added_110 ?_
    refine pw_put (j := 7) C cl_X10 fl_X10_165 (by decide) rfl rfl rfl rfl rfl c_76 (Nat.le_of_ble_eq_true rfl) dX10_added_111 (fun w_79 k_77 o_78 => ?_)
    have k_80 : w_79 1000 = (b, some (mdE B (va_up x 7 (n + 1)))) := k_77
    refine pw_aload_n (i := 0) C dX10_added_114 rfl rfl (Or.inr ⟨_, rfl⟩) ?_
    refine pw_get (j := 7) C cl_X10 fl_X10_165 (by decide) rfl k_80 rfl dX10_added_115 ?_
    refine pw_stk (st' := [.int (iZ (n + 1))]) rfl ?_
    refine pw_iconst C dX10_added_118 ?_
    refine pw_isub C dX10_added_119 ?_
    have c_81 := ((o_78 1001 (by omega)).trans ((o_74 1001 (by omega)).trans ((o_69 1001 (by omega)).trans ((o_19 1001 (by omega)).trans ((o_14 1001 (by omega)).trans (o_7 1001 (by omega))))))).trans k_1
    have c_82 := ((o_78 1002 (by omega)).trans ((o_74 1002 (by omega)).trans ((o_69 1002 (by omega)).trans ((o_19 1002 (by omega)).trans (o_14 1002 (by omega)))))).trans k_6
    have c_83 := ((o_78 1003 (by omega)).trans ((o_74 1003 (by omega)).trans ((o_69 1003 (by omega)).trans (o_19 1003 (by omega))))).trans k_13
    have c_84 := ((o_78 1004 (by omega)).trans ((o_74 1004 (by omega)).trans (o_69 1004 (by omega)))).trans k_18
    have c_85 := ((o_78 1005 (by omega)).trans (o_74 1005 (by omega))).trans k_68
    have c_86 := (o_78 1007 (by omega)).trans k_73
    exact pw_iret C hr dX10_added_120 ⟨by rw [show n + 1 - 1 = n by omega], k_80, c_81, c_82, c_83, c_84, by rw [if_pos (by omega)]; exact c_85, c_86, fun k hk => (o_78 k (by omega)).trans ((o_74 k (by omega)).trans ((o_69 k (by omega)).trans ((o_19 k (by omega)).trans ((o_14 k (by omega)).trans ((o_7 k (by omega)).trans (o_2 k (by omega)))))))⟩

