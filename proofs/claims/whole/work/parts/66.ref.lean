/-- the reference's number of a known name -/
def pm (k : Nat) : Nat := ([0, 1, 2, 3, 4, 5, 6, 7, 8, 9, 10, 11, 12, 13, 14, 16, 15, 20, 17, 18, 19, 21, 22, 23] : List Nat).getD k 0
def RK (t : Int → Ob) (n : Int) : Prop := 24 ≤ n ∧ ∀ k : Nat, k < 24 → t (k : Int) = yK (pm k)
theorem RK.ext {t t' : Int → Ob} {n n' : Int} (h : RK t n) (he : Ext t n t' n') : RK t' n' := ⟨by have := he.1; have := h.1; omega, fun k hk => (he.2 _ (by omega) (by have := h.1; omega)).trans (h.2 k hk)⟩
theorem RK.v {t : Int → Ob} {n : Int} (h : RK t n) (k : Nat) (hk : k < 24) : Vl t n (k : Int) (yK (pm k)) := ⟨by omega, by have := h.1; omega, h.2 k hk⟩
theorem RK.nil {t : Int → Ob} {n : Int} (h : RK t n) : Vl t n 0 oNil := h.v 0 (by decide)
theorem RS.inj {g : pw_P} {w : pw_W} {B : Nat → Nat} {t : Int → Ob} {n : Int} {s : Nat} {fZ : Int → Int} {z z' : Int} {X Y : Ob} (h : RS g w B t n s fZ) (hz : Vl t n z X) (hz' : Vl t n z' Y) : z = z' ↔ X = Y := by
  obtain ⟨fL, fR, fN, fH, fV, fD, fM, fE, a0, a1, a2, a3, a4, a5, a6, a8, a9, -, -, -, -, hC⟩ := h
  exact ⟨fun e => by rw [← hz.2.2, ← hz'.2.2, e], fun e => hC.2.1 z z' hz.1 hz.2.1 hz'.1 hz'.2.1 (by rw [hz.2.2, hz'.2.2, e])⟩
theorem RS.n {g : pw_P} {w : pw_W} {B : Nat → Nat} {t : Int → Ob} {n : Int} {s : Nat} {fZ : Int → Int} (h : RS g w B t n s fZ) : 0 ≤ n ∧ n ≤ 40000 ∧ s ≤ 4000 := by
  obtain ⟨fL, fR, fN, fH, fV, fD, fM, fE, a0, a1, a2, a3, a4, a5, a6, a8, a9, -, h1, -, h2, hC⟩ := h
  exact ⟨h1.1, h1.2, h2⟩
theorem RS.lens {g : pw_P} {w : pw_W} {B : Nat → Nat} {t : Int → Ob} {n : Int} {s : Nat} {fZ : Int → Int} (h : RS g w B t n s fZ) : ∃ fL fR fH fV : Int → Int, w 1001 = (B 0, some (AI g 40000 fL)) ∧ w 1002 = (B 1, some (AI g 40000 fR)) ∧ w 1005 = (B 4, some (AI g 40000 fH)) ∧ w 1006 = (B 5, some (AJ g 40000 fV)) ∧ ((∀ j, inI (fL j)) ∧ (∀ j, inI (fR j)) ∧ (∀ j, inI (fH j)) ∧ (∀ j, inL (fV j))) ∧ ∀ (o : Int) (X : Ob), Vl t n o X → (obP X = true → Vl t n (fL o) (obCar X) ∧ Vl t n (fR o) (obCdr X)) ∧ obP X = decide (0 ≤ fL o) ∧ obN X = decide (fL o = -1) ∧ obS X = decide (fL o = -2) ∧ fH o = obHt X ∧ (obN X = true → fV o = obAm X ∧ 0 ≤ fV o ∧ fV o < 4611686018427387904) ∧ -2 ≤ fL o := by
  obtain ⟨fL, fR, fN, fH, fV, fD, fM, fE, a0, a1, a2, a3, a4, a5, a6, a8, a9, ⟨u0, u1, u2, u3, u4, u5, u6, u8, u9⟩, h1, -, h2, hC⟩ := h
  refine ⟨fL, fR, fH, fV, a0, a1, a4, a5, ⟨u0, u1, u4, u5⟩, fun o X hX => ?_⟩
  obtain ⟨o0, o1, rfl⟩ := hX
  have hnd := hC.1 o o0 o1
  refine ⟨fun hp => ?_, hnd.p.1, hnd.p.2.1, hnd.p.2.2, (hC.ht _ o rfl o0 o1).2, fun hN => ?_, ?_⟩
  · rw [hnd.p.1] at hp
    have d := hnd.pair (of_decide_eq_true hp)
    have := of_decide_eq_true hp
    rw [d.2.2.2]
    exact ⟨⟨this, by omega, rfl⟩, ⟨d.2.1, by omega, rfl⟩⟩
  · rw [hnd.p.2.1] at hN
    have e := of_decide_eq_true hN
    rcases hnd with d | d | d
    · rw [d.2.2.2.1]; simp only [obAm]; exact ⟨by omega, d.2.1, d.2.2.1⟩
    · omega
    · omega
  · rcases hnd with d | d | d
    · omega
    · omega
    · omega
def cdN : Nat → Ob → Ob
  | 0, x => x
  | k + 1, x => cdN k (obCdr x)
theorem atL_iff {c : Int} (h : 0 ≤ c ∧ c < 256) : atL c = decide ((97 ≤ c ∧ c ≤ 122) ∨ (48 ≤ c ∧ c ≤ 57) ∨ c = 43 ∨ c = 45 ∨ c = 42 ∨ c = 47 ∨ c = 60 ∨ c = 62 ∨ c = 61 ∨ c = 63 ∨ c = 33 ∨ c = 95) := by
  have key : ∀ k : Fin 256, atL ((k.val : Nat) : Int) = decide ((97 ≤ ((k.val : Nat) : Int) ∧ ((k.val : Nat) : Int) ≤ 122) ∨ (48 ≤ ((k.val : Nat) : Int) ∧ ((k.val : Nat) : Int) ≤ 57) ∨ ((k.val : Nat) : Int) = 43 ∨ ((k.val : Nat) : Int) = 45 ∨ ((k.val : Nat) : Int) = 42 ∨ ((k.val : Nat) : Int) = 47 ∨ ((k.val : Nat) : Int) = 60 ∨ ((k.val : Nat) : Int) = 62 ∨ ((k.val : Nat) : Int) = 61 ∨ ((k.val : Nat) : Int) = 63 ∨ ((k.val : Nat) : Int) = 33 ∨ ((k.val : Nat) : Int) = 95) := by decide +kernel
  have := key ⟨c.toNat, by omega⟩
  rw [show ((c.toNat : Nat) : Int) = c by omega] at this
  exact this
set_option maxRecDepth 100000 in
set_option maxHeartbeats 4000000 in
/-- isDigit -/
theorem m_X10_isDigit (g : pw_P) (l : Launch) {w : pw_W} {c0 : Int} (hc : 0 ≤ c0 ∧ c0 < 256) : pw_M g l yX10_isDigit cX10_isDigit 1 (some .boolean) { frames := 0, cells := 0, slots := 0, locals := 0 } [.int (iZ c0)] w (fun r w' => w = w' ∧ r = some (.int (iZ (b2i (isDg c0))))) := by
  refine pw_M.of (by decide) (Nat.le_of_ble_eq_true rfl) rfl ?_
  intro p e s m args below meth c C hr hn
  refine pw_iload_n (i := 0) C dX10_isDigit_0 rfl rfl ?_
  refine pw_bipush C dX10_isDigit_1 (by decide) ?_
  refine pw_icmp_lt (tgt := 16) C (by omega) (by omega) dX10_isDigit_3 (by decide) (fun h_1 => ?_) (fun h_1 => ?_)
  · refine pw_iconst C dX10_isDigit_16 ?_
    exact pw_zret C hr (by decide +kernel) dX10_isDigit_17 ⟨rfl, by rw [show isDg c0 = false from decide_eq_false (by omega)]; rfl⟩
  · refine pw_iload_n (i := 0) C dX10_isDigit_6 rfl rfl ?_
    refine pw_bipush C dX10_isDigit_7 (by decide) ?_
    refine pw_icmp_gt (tgt := 16) C (by omega) (by omega) dX10_isDigit_9 (by decide) (fun h_2 => ?_) (fun h_2 => ?_)
    · refine pw_iconst C dX10_isDigit_16 ?_
      exact pw_zret C hr (by decide +kernel) dX10_isDigit_17 ⟨rfl, by rw [show isDg c0 = false from decide_eq_false (by omega)]; rfl⟩
    · refine pw_iconst C dX10_isDigit_12 ?_
      refine pw_goto (tgt := 17) C dX10_isDigit_13 (by decide) ?_
      exact pw_zret C hr (by decide +kernel) dX10_isDigit_17 ⟨rfl, by rw [show isDg c0 = true from decide_eq_true (by omega)]; rfl⟩

set_option maxRecDepth 100000 in
set_option maxHeartbeats 4000000 in
/-- isAtom -/
theorem m_X10_isAtom (g : pw_P) (l : Launch) {w : pw_W} {c0 : Int} (hc : 0 ≤ c0 ∧ c0 < 256) : pw_M g l yX10_isAtom cX10_isAtom 1 (some .boolean) { frames := 1, cells := 0, slots := 0, locals := 20 } [.int (iZ c0)] w (fun r w' => w = w' ∧ r = some (.int (iZ (b2i (atL c0))))) := by
  refine pw_M.of (by decide) (Nat.le_of_ble_eq_true rfl) rfl ?_
  intro p e s m args below meth c C hr hn
  refine pw_iload_n (i := 0) C dX10_isAtom_0 rfl rfl ?_
  refine pw_bipush C dX10_isAtom_1 (by decide) ?_
  refine pw_icmp_lt (tgt := 12) C (by omega) (by omega) dX10_isAtom_3 (by decide) (fun h_1 => ?_) (fun h_1 => ?_)
  · refine pw_iload_n (i := 0) C dX10_isAtom_12 rfl rfl ?_
    refine pw_callS (As := [.int (iZ c0)]) (st := []) C (m_X10_isDigit g l (c0 := c0) (by omega)) my_X10_isDigit ml_X10_198 rfl ⟨Nat.le_of_ble_eq_true rfl, Nat.le_of_ble_eq_true rfl⟩ ⟨by (try dsimp only); omega, by (try dsimp only); omega⟩ rfl (Nat.le_of_ble_eq_true rfl) dX10_isAtom_13 ?_
    rintro _ _ ⟨rfl, rfl⟩
    refine pw_stk (st' := [.int (iZ (b2i (isDg c0)))]) rfl ?_
    refine pw_if_neB (tgt := 79) C dX10_isAtom_16 (by decide) (fun h_2 => ?_) (fun h_2 => ?_)
    · have hdq := of_decide_eq_true h_2
      refine pw_iconst C dX10_isAtom_79 ?_
      refine pw_goto (tgt := 84) C dX10_isAtom_80 (by decide) ?_
      exact pw_zret C hr (by decide +kernel) dX10_isAtom_84 ⟨rfl, by rw [show atL c0 = true from by rw [atL_iff hc]; exact decide_eq_true (by omega)]; rfl⟩
    · have hdq := of_decide_eq_false h_2
      refine pw_iload_n (i := 0) C dX10_isAtom_19 rfl rfl ?_
      refine pw_bipush C dX10_isAtom_20 (by decide) ?_
      refine pw_icmp_eq (tgt := 79) C (by omega) (by omega) dX10_isAtom_22 (by decide) (fun h_3 => ?_) (fun h_3 => ?_)
      · refine pw_iconst C dX10_isAtom_79 ?_
        refine pw_goto (tgt := 84) C dX10_isAtom_80 (by decide) ?_
        exact pw_zret C hr (by decide +kernel) dX10_isAtom_84 ⟨rfl, by rw [show atL c0 = true from by rw [atL_iff hc]; exact decide_eq_true (by omega)]; rfl⟩
      · refine pw_iload_n (i := 0) C dX10_isAtom_25 rfl rfl ?_
        refine pw_bipush C dX10_isAtom_26 (by decide) ?_
        refine pw_icmp_eq (tgt := 79) C (by omega) (by omega) dX10_isAtom_28 (by decide) (fun h_4 => ?_) (fun h_4 => ?_)
        · refine pw_iconst C dX10_isAtom_79 ?_
          refine pw_goto (tgt := 84) C dX10_isAtom_80 (by decide) ?_
          exact pw_zret C hr (by decide +kernel) dX10_isAtom_84 ⟨rfl, by rw [show atL c0 = true from by rw [atL_iff hc]; exact decide_eq_true (by omega)]; rfl⟩
        · refine pw_iload_n (i := 0) C dX10_isAtom_31 rfl rfl ?_
          refine pw_bipush C dX10_isAtom_32 (by decide) ?_
          refine pw_icmp_eq (tgt := 79) C (by omega) (by omega) dX10_isAtom_34 (by decide) (fun h_5 => ?_) (fun h_5 => ?_)
          · refine pw_iconst C dX10_isAtom_79 ?_
            refine pw_goto (tgt := 84) C dX10_isAtom_80 (by decide) ?_
            exact pw_zret C hr (by decide +kernel) dX10_isAtom_84 ⟨rfl, by rw [show atL c0 = true from by rw [atL_iff hc]; exact decide_eq_true (by omega)]; rfl⟩
          · refine pw_iload_n (i := 0) C dX10_isAtom_37 rfl rfl ?_
            refine pw_bipush C dX10_isAtom_38 (by decide) ?_
            refine pw_icmp_eq (tgt := 79) C (by omega) (by omega) dX10_isAtom_40 (by decide) (fun h_6 => ?_) (fun h_6 => ?_)
            · refine pw_iconst C dX10_isAtom_79 ?_
              refine pw_goto (tgt := 84) C dX10_isAtom_80 (by decide) ?_
              exact pw_zret C hr (by decide +kernel) dX10_isAtom_84 ⟨rfl, by rw [show atL c0 = true from by rw [atL_iff hc]; exact decide_eq_true (by omega)]; rfl⟩
            · refine pw_iload_n (i := 0) C dX10_isAtom_43 rfl rfl ?_
              refine pw_bipush C dX10_isAtom_44 (by decide) ?_
              refine pw_icmp_eq (tgt := 79) C (by omega) (by omega) dX10_isAtom_46 (by decide) (fun h_7 => ?_) (fun h_7 => ?_)
              · refine pw_iconst C dX10_isAtom_79 ?_
                refine pw_goto (tgt := 84) C dX10_isAtom_80 (by decide) ?_
                exact pw_zret C hr (by decide +kernel) dX10_isAtom_84 ⟨rfl, by rw [show atL c0 = true from by rw [atL_iff hc]; exact decide_eq_true (by omega)]; rfl⟩
              · refine pw_iload_n (i := 0) C dX10_isAtom_49 rfl rfl ?_
                refine pw_bipush C dX10_isAtom_50 (by decide) ?_
                refine pw_icmp_eq (tgt := 79) C (by omega) (by omega) dX10_isAtom_52 (by decide) (fun h_8 => ?_) (fun h_8 => ?_)
                · refine pw_iconst C dX10_isAtom_79 ?_
                  refine pw_goto (tgt := 84) C dX10_isAtom_80 (by decide) ?_
                  exact pw_zret C hr (by decide +kernel) dX10_isAtom_84 ⟨rfl, by rw [show atL c0 = true from by rw [atL_iff hc]; exact decide_eq_true (by omega)]; rfl⟩
                · refine pw_iload_n (i := 0) C dX10_isAtom_55 rfl rfl ?_
                  refine pw_bipush C dX10_isAtom_56 (by decide) ?_
                  refine pw_icmp_eq (tgt := 79) C (by omega) (by omega) dX10_isAtom_58 (by decide) (fun h_9 => ?_) (fun h_9 => ?_)
                  · refine pw_iconst C dX10_isAtom_79 ?_
                    refine pw_goto (tgt := 84) C dX10_isAtom_80 (by decide) ?_
                    exact pw_zret C hr (by decide +kernel) dX10_isAtom_84 ⟨rfl, by rw [show atL c0 = true from by rw [atL_iff hc]; exact decide_eq_true (by omega)]; rfl⟩
                  · refine pw_iload_n (i := 0) C dX10_isAtom_61 rfl rfl ?_
                    refine pw_bipush C dX10_isAtom_62 (by decide) ?_
                    refine pw_icmp_eq (tgt := 79) C (by omega) (by omega) dX10_isAtom_64 (by decide) (fun h_10 => ?_) (fun h_10 => ?_)
                    · refine pw_iconst C dX10_isAtom_79 ?_
                      refine pw_goto (tgt := 84) C dX10_isAtom_80 (by decide) ?_
                      exact pw_zret C hr (by decide +kernel) dX10_isAtom_84 ⟨rfl, by rw [show atL c0 = true from by rw [atL_iff hc]; exact decide_eq_true (by omega)]; rfl⟩
                    · refine pw_iload_n (i := 0) C dX10_isAtom_67 rfl rfl ?_
                      refine pw_bipush C dX10_isAtom_68 (by decide) ?_
                      refine pw_icmp_eq (tgt := 79) C (by omega) (by omega) dX10_isAtom_70 (by decide) (fun h_11 => ?_) (fun h_11 => ?_)
                      · refine pw_iconst C dX10_isAtom_79 ?_
                        refine pw_goto (tgt := 84) C dX10_isAtom_80 (by decide) ?_
                        exact pw_zret C hr (by decide +kernel) dX10_isAtom_84 ⟨rfl, by rw [show atL c0 = true from by rw [atL_iff hc]; exact decide_eq_true (by omega)]; rfl⟩
                      · refine pw_iload_n (i := 0) C dX10_isAtom_73 rfl rfl ?_
                        refine pw_bipush C dX10_isAtom_74 (by decide) ?_
                        refine pw_icmp_ne (tgt := 83) C (by omega) (by omega) dX10_isAtom_76 (by decide) (fun h_12 => ?_) (fun h_12 => ?_)
                        · refine pw_iconst C dX10_isAtom_83 ?_
                          exact pw_zret C hr (by decide +kernel) dX10_isAtom_84 ⟨rfl, by rw [show atL c0 = false from by rw [atL_iff hc]; exact decide_eq_false (by omega)]; rfl⟩
                        · refine pw_iconst C dX10_isAtom_79 ?_
                          refine pw_goto (tgt := 84) C dX10_isAtom_80 (by decide) ?_
                          exact pw_zret C hr (by decide +kernel) dX10_isAtom_84 ⟨rfl, by rw [show atL c0 = true from by rw [atL_iff hc]; exact decide_eq_true (by omega)]; rfl⟩
  · refine pw_iload_n (i := 0) C dX10_isAtom_6 rfl rfl ?_
    refine pw_bipush C dX10_isAtom_7 (by decide) ?_
    refine pw_icmp_le (tgt := 79) C (by omega) (by omega) dX10_isAtom_9 (by decide) (fun h_13 => ?_) (fun h_13 => ?_)
    · refine pw_iconst C dX10_isAtom_79 ?_
      refine pw_goto (tgt := 84) C dX10_isAtom_80 (by decide) ?_
      exact pw_zret C hr (by decide +kernel) dX10_isAtom_84 ⟨rfl, by rw [show atL c0 = true from by rw [atL_iff hc]; exact decide_eq_true (by omega)]; rfl⟩
    · refine pw_iload_n (i := 0) C dX10_isAtom_12 rfl rfl ?_
      refine pw_callS (As := [.int (iZ c0)]) (st := []) C (m_X10_isDigit g l (c0 := c0) (by omega)) my_X10_isDigit ml_X10_198 rfl ⟨Nat.le_of_ble_eq_true rfl, Nat.le_of_ble_eq_true rfl⟩ ⟨by (try dsimp only); omega, by (try dsimp only); omega⟩ rfl (Nat.le_of_ble_eq_true rfl) dX10_isAtom_13 ?_
      rintro _ _ ⟨rfl, rfl⟩
      refine pw_stk (st' := [.int (iZ (b2i (isDg c0)))]) rfl ?_
      refine pw_if_neB (tgt := 79) C dX10_isAtom_16 (by decide) (fun h_14 => ?_) (fun h_14 => ?_)
      · have hdq := of_decide_eq_true h_14
        refine pw_iconst C dX10_isAtom_79 ?_
        refine pw_goto (tgt := 84) C dX10_isAtom_80 (by decide) ?_
        exact pw_zret C hr (by decide +kernel) dX10_isAtom_84 ⟨rfl, by rw [show atL c0 = true from by rw [atL_iff hc]; exact decide_eq_true (by omega)]; rfl⟩
      · have hdq := of_decide_eq_false h_14
        refine pw_iload_n (i := 0) C dX10_isAtom_19 rfl rfl ?_
        refine pw_bipush C dX10_isAtom_20 (by decide) ?_
        refine pw_icmp_eq (tgt := 79) C (by omega) (by omega) dX10_isAtom_22 (by decide) (fun h_15 => ?_) (fun h_15 => ?_)
        · refine pw_iconst C dX10_isAtom_79 ?_
          refine pw_goto (tgt := 84) C dX10_isAtom_80 (by decide) ?_
          exact pw_zret C hr (by decide +kernel) dX10_isAtom_84 ⟨rfl, by rw [show atL c0 = true from by rw [atL_iff hc]; exact decide_eq_true (by omega)]; rfl⟩
        · refine pw_iload_n (i := 0) C dX10_isAtom_25 rfl rfl ?_
          refine pw_bipush C dX10_isAtom_26 (by decide) ?_
          refine pw_icmp_eq (tgt := 79) C (by omega) (by omega) dX10_isAtom_28 (by decide) (fun h_16 => ?_) (fun h_16 => ?_)
          · refine pw_iconst C dX10_isAtom_79 ?_
            refine pw_goto (tgt := 84) C dX10_isAtom_80 (by decide) ?_
            exact pw_zret C hr (by decide +kernel) dX10_isAtom_84 ⟨rfl, by rw [show atL c0 = true from by rw [atL_iff hc]; exact decide_eq_true (by omega)]; rfl⟩
          · refine pw_iload_n (i := 0) C dX10_isAtom_31 rfl rfl ?_
            refine pw_bipush C dX10_isAtom_32 (by decide) ?_
            refine pw_icmp_eq (tgt := 79) C (by omega) (by omega) dX10_isAtom_34 (by decide) (fun h_17 => ?_) (fun h_17 => ?_)
            · refine pw_iconst C dX10_isAtom_79 ?_
              refine pw_goto (tgt := 84) C dX10_isAtom_80 (by decide) ?_
              exact pw_zret C hr (by decide +kernel) dX10_isAtom_84 ⟨rfl, by rw [show atL c0 = true from by rw [atL_iff hc]; exact decide_eq_true (by omega)]; rfl⟩
            · refine pw_iload_n (i := 0) C dX10_isAtom_37 rfl rfl ?_
              refine pw_bipush C dX10_isAtom_38 (by decide) ?_
              refine pw_icmp_eq (tgt := 79) C (by omega) (by omega) dX10_isAtom_40 (by decide) (fun h_18 => ?_) (fun h_18 => ?_)
              · refine pw_iconst C dX10_isAtom_79 ?_
                refine pw_goto (tgt := 84) C dX10_isAtom_80 (by decide) ?_
                exact pw_zret C hr (by decide +kernel) dX10_isAtom_84 ⟨rfl, by rw [show atL c0 = true from by rw [atL_iff hc]; exact decide_eq_true (by omega)]; rfl⟩
              · refine pw_iload_n (i := 0) C dX10_isAtom_43 rfl rfl ?_
                refine pw_bipush C dX10_isAtom_44 (by decide) ?_
                refine pw_icmp_eq (tgt := 79) C (by omega) (by omega) dX10_isAtom_46 (by decide) (fun h_19 => ?_) (fun h_19 => ?_)
                · refine pw_iconst C dX10_isAtom_79 ?_
                  refine pw_goto (tgt := 84) C dX10_isAtom_80 (by decide) ?_
                  exact pw_zret C hr (by decide +kernel) dX10_isAtom_84 ⟨rfl, by rw [show atL c0 = true from by rw [atL_iff hc]; exact decide_eq_true (by omega)]; rfl⟩
                · refine pw_iload_n (i := 0) C dX10_isAtom_49 rfl rfl ?_
                  refine pw_bipush C dX10_isAtom_50 (by decide) ?_
                  refine pw_icmp_eq (tgt := 79) C (by omega) (by omega) dX10_isAtom_52 (by decide) (fun h_20 => ?_) (fun h_20 => ?_)
                  · refine pw_iconst C dX10_isAtom_79 ?_
                    refine pw_goto (tgt := 84) C dX10_isAtom_80 (by decide) ?_
                    exact pw_zret C hr (by decide +kernel) dX10_isAtom_84 ⟨rfl, by rw [show atL c0 = true from by rw [atL_iff hc]; exact decide_eq_true (by omega)]; rfl⟩
                  · refine pw_iload_n (i := 0) C dX10_isAtom_55 rfl rfl ?_
                    refine pw_bipush C dX10_isAtom_56 (by decide) ?_
                    refine pw_icmp_eq (tgt := 79) C (by omega) (by omega) dX10_isAtom_58 (by decide) (fun h_21 => ?_) (fun h_21 => ?_)
                    · refine pw_iconst C dX10_isAtom_79 ?_
                      refine pw_goto (tgt := 84) C dX10_isAtom_80 (by decide) ?_
                      exact pw_zret C hr (by decide +kernel) dX10_isAtom_84 ⟨rfl, by rw [show atL c0 = true from by rw [atL_iff hc]; exact decide_eq_true (by omega)]; rfl⟩
                    · refine pw_iload_n (i := 0) C dX10_isAtom_61 rfl rfl ?_
                      refine pw_bipush C dX10_isAtom_62 (by decide) ?_
                      refine pw_icmp_eq (tgt := 79) C (by omega) (by omega) dX10_isAtom_64 (by decide) (fun h_22 => ?_) (fun h_22 => ?_)
                      · refine pw_iconst C dX10_isAtom_79 ?_
                        refine pw_goto (tgt := 84) C dX10_isAtom_80 (by decide) ?_
                        exact pw_zret C hr (by decide +kernel) dX10_isAtom_84 ⟨rfl, by rw [show atL c0 = true from by rw [atL_iff hc]; exact decide_eq_true (by omega)]; rfl⟩
                      · refine pw_iload_n (i := 0) C dX10_isAtom_67 rfl rfl ?_
                        refine pw_bipush C dX10_isAtom_68 (by decide) ?_
                        refine pw_icmp_eq (tgt := 79) C (by omega) (by omega) dX10_isAtom_70 (by decide) (fun h_23 => ?_) (fun h_23 => ?_)
                        · refine pw_iconst C dX10_isAtom_79 ?_
                          refine pw_goto (tgt := 84) C dX10_isAtom_80 (by decide) ?_
                          exact pw_zret C hr (by decide +kernel) dX10_isAtom_84 ⟨rfl, by rw [show atL c0 = true from by rw [atL_iff hc]; exact decide_eq_true (by omega)]; rfl⟩
                        · refine pw_iload_n (i := 0) C dX10_isAtom_73 rfl rfl ?_
                          refine pw_bipush C dX10_isAtom_74 (by decide) ?_
                          refine pw_icmp_ne (tgt := 83) C (by omega) (by omega) dX10_isAtom_76 (by decide) (fun h_24 => ?_) (fun h_24 => ?_)
                          · refine pw_iconst C dX10_isAtom_83 ?_
                            exact pw_zret C hr (by decide +kernel) dX10_isAtom_84 ⟨rfl, by rw [show atL c0 = false from by rw [atL_iff hc]; exact decide_eq_false (by omega)]; rfl⟩
                          · refine pw_iconst C dX10_isAtom_79 ?_
                            refine pw_goto (tgt := 84) C dX10_isAtom_80 (by decide) ?_
                            exact pw_zret C hr (by decide +kernel) dX10_isAtom_84 ⟨rfl, by rw [show atL c0 = true from by rw [atL_iff hc]; exact decide_eq_true (by omega)]; rfl⟩

theorem Vl.rg {g : pw_P} {w : pw_W} {B : Nat → Nat} {t : Int → Ob} {n z : Int} {s : Nat} {fZ : Int → Int} {X : Ob} (h : RS g w B t n s fZ) (hz : Vl t n z X) : 0 ≤ z ∧ z < n ∧ z < 40000 := ⟨hz.1, hz.2.1, by have := hz.2.1; have := h.n; omega⟩
/-- objects made: the last one, at most so many new ones -/
def rNc (g : pw_P) (w w' : pw_W) (b : Nat) (B : Nat → Nat) (x : Nat → Int) (t : Int → Ob) (n : Int) (sN ds c : Nat) (fZ : Int → Int) (X : Ob) (r : Option Value) : Prop :=
  ∃ (z : Int) (t' : Int → Ob) (n' : Int) (s' : Nat) (fZ' : Int → Int), r = some (.int (iZ z)) ∧ w' 1000 = (b, some (mdE B (va_up (va_up x 7 n') 10 ((s' : Nat) : Int)))) ∧ RS g w' B t' n' s' fZ' ∧ Ext t n t' n' ∧ n' ≤ n + c ∧ s' ≤ sN + ds ∧ (∀ j : Int, 0 ≤ j → j < n → fZ' j = fZ j) ∧ Vl t' n' z X ∧ ∀ k, (k < 1000 ∨ 1010 < k ∨ k = 1008) → w' k = w k
set_option maxRecDepth 100000 in
set_option maxHeartbeats 4000000 in
/-- X10_list1 -/
theorem m_X10_list1 (g : pw_P) (l : Launch) {w : pw_W} {b : Nat} {B : Nat → Nat} {x : Nat → Int} (h0 : w 1000 = (b, some (mdE B x))) {t : Int → Ob} {n : Int} {sN : Nat} {fZ : Int → Int} (hR : RS g w B t n sN fZ) (h7 : x 7 = n) (h10 : x 10 = ((sN : Nat) : Int)) (hK : RK t n) {y1 : Int} {Y1 : Ob} (hy1 : Vl t n y1 Y1) (hcap : n + 1 ≤ 40000) : pw_M g l yX10_list1 cX10_list1 2 (some .int) { frames := 2, cells := 0, slots := 0, locals := 47 } [.ref b, .int (iZ y1)] w (fun r w' => rNc g w w' b B x t n sN 0 1 fZ (.add Y1 oNil) r) := by
  refine pw_M.of (by decide) (Nat.le_of_ble_eq_true rfl) rfl ?_
  intro p e s m args below meth c C hr hn
  have hRn := hR.n
  have y1r := Vl.rg hR hy1
  refine pw_aload_n (i := 0) C dX10_list1_0 rfl rfl (Or.inr ⟨_, rfl⟩) ?_
  refine pw_iload_n (i := 1) C dX10_list1_1 rfl rfl ?_
  refine pw_iconst C dX10_list1_2 ?_
  refine pw_callV (As := [.int (iZ y1), .int (iZ 0)]) (st := []) C (rd_pair g l h0 hR h7 h10 hy1 (RK.v hK 0 (by decide)) (by omega)) my_X10_pair ml_X10_183 (pw_rec.of C h0 cl_X10.1) rfl ⟨Nat.le_of_ble_eq_true rfl, Nat.le_of_ble_eq_true rfl⟩ ⟨by (try dsimp only); omega, by (try dsimp only); omega⟩ rfl (Nat.le_of_ble_eq_true rfl) dX10_list1_3 ?_
  rintro _ w_13 ⟨z_1, t_2, n_3, sN_4, Z_5, rfl, e_6, R_7, x_8, hn_9, hs_10, hZ_11, z_1v, o_12⟩
  have x_81 := x_8.1
  have R_7n := R_7.n
  have v_14 := Vl.ext hy1 x_8
  have K_15 := RK.ext hK x_8
  have z_1r := Vl.rg R_7 z_1v
  refine pw_stk (st' := [.int (iZ z_1)]) rfl ?_
  exact pw_iret C hr dX10_list1_6 ⟨z_1, t_2, n_3, sN_4, Z_5, rfl, e_6, R_7, x_8, by omega, by omega, fun j j0 j1 => (hZ_11 j j0 j1), z_1v, fun k hk => (o_12 k (by omega))⟩

set_option maxRecDepth 100000 in
set_option maxHeartbeats 4000000 in
/-- X10_list2 -/
theorem m_X10_list2 (g : pw_P) (l : Launch) {w : pw_W} {b : Nat} {B : Nat → Nat} {x : Nat → Int} (h0 : w 1000 = (b, some (mdE B x))) {t : Int → Ob} {n : Int} {sN : Nat} {fZ : Int → Int} (hR : RS g w B t n sN fZ) (h7 : x 7 = n) (h10 : x 10 = ((sN : Nat) : Int)) (hK : RK t n) {y1 y2 : Int} {Y1 Y2 : Ob} (hy1 : Vl t n y1 Y1) (hy2 : Vl t n y2 Y2) (hcap : n + 2 ≤ 40000) : pw_M g l yX10_list2 cX10_list2 3 (some .int) { frames := 3, cells := 0, slots := 0, locals := 68 } [.ref b, .int (iZ y1), .int (iZ y2)] w (fun r w' => rNc g w w' b B x t n sN 0 2 fZ (.add Y1 (.add Y2 oNil)) r) := by
  refine pw_M.of (by decide) (Nat.le_of_ble_eq_true rfl) rfl ?_
  intro p e s m args below meth c C hr hn
  have hRn := hR.n
  have y1r := Vl.rg hR hy1
  have y2r := Vl.rg hR hy2
  refine pw_aload_n (i := 0) C dX10_list2_0 rfl rfl (Or.inr ⟨_, rfl⟩) ?_
  refine pw_iload_n (i := 1) C dX10_list2_1 rfl rfl ?_
  refine pw_aload_n (i := 0) C dX10_list2_2 rfl rfl (Or.inr ⟨_, rfl⟩) ?_
  refine pw_iload_n (i := 2) C dX10_list2_3 rfl rfl ?_
  refine pw_callV (As := [.int (iZ y2)]) (st := [.int (iZ y1), .ref b]) C (m_X10_list1 g l h0 hR h7 h10 hK hy2 (by omega)) my_X10_list1 ml_X10_186 (pw_rec.of C h0 cl_X10.1) rfl ⟨Nat.le_of_ble_eq_true rfl, Nat.le_of_ble_eq_true rfl⟩ ⟨by (try dsimp only); omega, by (try dsimp only); omega⟩ rfl (Nat.le_of_ble_eq_true rfl) dX10_list2_4 ?_
  rintro _ w_13 ⟨z_1, t_2, n_3, sN_4, Z_5, rfl, e_6, R_7, x_8, hn_9, hs_10, hZ_11, z_1v, o_12⟩
  have x_81 := x_8.1
  have R_7n := R_7.n
  have v_14 := Vl.ext hy1 x_8
  have v_15 := Vl.ext hy2 x_8
  have K_16 := RK.ext hK x_8
  have z_1r := Vl.rg R_7 z_1v
  refine pw_stk (st' := [.int (iZ z_1), .int (iZ y1), .ref b]) rfl ?_
  refine pw_callV (As := [.int (iZ y1), .int (iZ z_1)]) (st := []) C (rd_pair g l e_6 R_7 rfl rfl v_14 z_1v (by omega)) my_X10_pair ml_X10_183 (pw_rec.of C e_6 cl_X10.1) rfl ⟨Nat.le_of_ble_eq_true rfl, Nat.le_of_ble_eq_true rfl⟩ ⟨by (try dsimp only); omega, by (try dsimp only); omega⟩ rfl (Nat.le_of_ble_eq_true rfl) dX10_list2_7 ?_
  rintro _ w_29 ⟨z_17, t_18, n_19, sN_20, Z_21, rfl, e_22, R_23, x_24, hn_25, hs_26, hZ_27, z_17v, o_28⟩
  have x_241 := x_24.1
  have R_23n := R_23.n
  have v_30 := Vl.ext v_14 x_24
  have v_31 := Vl.ext v_15 x_24
  have v_32 := Vl.ext z_1v x_24
  have K_33 := RK.ext K_16 x_24
  have z_17r := Vl.rg R_23 z_17v
  refine pw_stk (st' := [.int (iZ z_17)]) rfl ?_
  exact pw_iret C hr dX10_list2_10 ⟨z_17, t_18, n_19, sN_20, Z_21, rfl, e_22, R_23, (x_8.tr x_24), by omega, by omega, fun j j0 j1 => ((hZ_27 j j0 (by omega)).trans (hZ_11 j j0 j1)), z_17v, fun k hk => (o_28 k (by omega)).trans (o_12 k (by omega))⟩

set_option maxRecDepth 100000 in
set_option maxHeartbeats 4000000 in
/-- X10_list3 -/
theorem m_X10_list3 (g : pw_P) (l : Launch) {w : pw_W} {b : Nat} {B : Nat → Nat} {x : Nat → Int} (h0 : w 1000 = (b, some (mdE B x))) {t : Int → Ob} {n : Int} {sN : Nat} {fZ : Int → Int} (hR : RS g w B t n sN fZ) (h7 : x 7 = n) (h10 : x 10 = ((sN : Nat) : Int)) (hK : RK t n) {y1 y2 y3 : Int} {Y1 Y2 Y3 : Ob} (hy1 : Vl t n y1 Y1) (hy2 : Vl t n y2 Y2) (hy3 : Vl t n y3 Y3) (hcap : n + 3 ≤ 40000) : pw_M g l yX10_list3 cX10_list3 4 (some .int) { frames := 4, cells := 0, slots := 0, locals := 90 } [.ref b, .int (iZ y1), .int (iZ y2), .int (iZ y3)] w (fun r w' => rNc g w w' b B x t n sN 0 3 fZ (.add Y1 (.add Y2 (.add Y3 oNil))) r) := by
  refine pw_M.of (by decide) (Nat.le_of_ble_eq_true rfl) rfl ?_
  intro p e s m args below meth c C hr hn
  have hRn := hR.n
  have y1r := Vl.rg hR hy1
  have y2r := Vl.rg hR hy2
  have y3r := Vl.rg hR hy3
  refine pw_aload_n (i := 0) C dX10_list3_0 rfl rfl (Or.inr ⟨_, rfl⟩) ?_
  refine pw_iload_n (i := 1) C dX10_list3_1 rfl rfl ?_
  refine pw_aload_n (i := 0) C dX10_list3_2 rfl rfl (Or.inr ⟨_, rfl⟩) ?_
  refine pw_iload_n (i := 2) C dX10_list3_3 rfl rfl ?_
  refine pw_iload_n (i := 3) C dX10_list3_4 rfl rfl ?_
  refine pw_callV (As := [.int (iZ y2), .int (iZ y3)]) (st := [.int (iZ y1), .ref b]) C (m_X10_list2 g l h0 hR h7 h10 hK hy2 hy3 (by omega)) my_X10_list2 ml_X10_189 (pw_rec.of C h0 cl_X10.1) rfl ⟨Nat.le_of_ble_eq_true rfl, Nat.le_of_ble_eq_true rfl⟩ ⟨by (try dsimp only); omega, by (try dsimp only); omega⟩ rfl (Nat.le_of_ble_eq_true rfl) dX10_list3_5 ?_
  rintro _ w_13 ⟨z_1, t_2, n_3, sN_4, Z_5, rfl, e_6, R_7, x_8, hn_9, hs_10, hZ_11, z_1v, o_12⟩
  have x_81 := x_8.1
  have R_7n := R_7.n
  have v_14 := Vl.ext hy1 x_8
  have v_15 := Vl.ext hy2 x_8
  have v_16 := Vl.ext hy3 x_8
  have K_17 := RK.ext hK x_8
  have z_1r := Vl.rg R_7 z_1v
  refine pw_stk (st' := [.int (iZ z_1), .int (iZ y1), .ref b]) rfl ?_
  refine pw_callV (As := [.int (iZ y1), .int (iZ z_1)]) (st := []) C (rd_pair g l e_6 R_7 rfl rfl v_14 z_1v (by omega)) my_X10_pair ml_X10_183 (pw_rec.of C e_6 cl_X10.1) rfl ⟨Nat.le_of_ble_eq_true rfl, Nat.le_of_ble_eq_true rfl⟩ ⟨by (try dsimp only); omega, by (try dsimp only); omega⟩ rfl (Nat.le_of_ble_eq_true rfl) dX10_list3_8 ?_
  rintro _ w_30 ⟨z_18, t_19, n_20, sN_21, Z_22, rfl, e_23, R_24, x_25, hn_26, hs_27, hZ_28, z_18v, o_29⟩
  have x_251 := x_25.1
  have R_24n := R_24.n
  have v_31 := Vl.ext v_14 x_25
  have v_32 := Vl.ext v_15 x_25
  have v_33 := Vl.ext v_16 x_25
  have v_34 := Vl.ext z_1v x_25
  have K_35 := RK.ext K_17 x_25
  have z_18r := Vl.rg R_24 z_18v
  refine pw_stk (st' := [.int (iZ z_18)]) rfl ?_
  exact pw_iret C hr dX10_list3_11 ⟨z_18, t_19, n_20, sN_21, Z_22, rfl, e_23, R_24, (x_8.tr x_25), by omega, by omega, fun j j0 j1 => ((hZ_28 j j0 (by omega)).trans (hZ_11 j j0 j1)), z_18v, fun k hk => (o_29 k (by omega)).trans (o_12 k (by omega))⟩

set_option maxRecDepth 100000 in
set_option maxHeartbeats 4000000 in
/-- X10_list4 -/
theorem m_X10_list4 (g : pw_P) (l : Launch) {w : pw_W} {b : Nat} {B : Nat → Nat} {x : Nat → Int} (h0 : w 1000 = (b, some (mdE B x))) {t : Int → Ob} {n : Int} {sN : Nat} {fZ : Int → Int} (hR : RS g w B t n sN fZ) (h7 : x 7 = n) (h10 : x 10 = ((sN : Nat) : Int)) (hK : RK t n) {y1 y2 y3 y4 : Int} {Y1 Y2 Y3 Y4 : Ob} (hy1 : Vl t n y1 Y1) (hy2 : Vl t n y2 Y2) (hy3 : Vl t n y3 Y3) (hy4 : Vl t n y4 Y4) (hcap : n + 4 ≤ 40000) : pw_M g l yX10_list4 cX10_list4 5 (some .int) { frames := 5, cells := 0, slots := 0, locals := 113 } [.ref b, .int (iZ y1), .int (iZ y2), .int (iZ y3), .int (iZ y4)] w (fun r w' => rNc g w w' b B x t n sN 0 4 fZ (.add Y1 (.add Y2 (.add Y3 (.add Y4 oNil)))) r) := by
  refine pw_M.of (by decide) (Nat.le_of_ble_eq_true rfl) rfl ?_
  intro p e s m args below meth c C hr hn
  have hRn := hR.n
  have y1r := Vl.rg hR hy1
  have y2r := Vl.rg hR hy2
  have y3r := Vl.rg hR hy3
  have y4r := Vl.rg hR hy4
  refine pw_aload_n (i := 0) C dX10_list4_0 rfl rfl (Or.inr ⟨_, rfl⟩) ?_
  refine pw_iload_n (i := 1) C dX10_list4_1 rfl rfl ?_
  refine pw_aload_n (i := 0) C dX10_list4_2 rfl rfl (Or.inr ⟨_, rfl⟩) ?_
  refine pw_iload_n (i := 2) C dX10_list4_3 rfl rfl ?_
  refine pw_iload_n (i := 3) C dX10_list4_4 rfl rfl ?_
  refine pw_iload C dX10_list4_5 rfl ?_
  refine pw_callV (As := [.int (iZ y2), .int (iZ y3), .int (iZ y4)]) (st := [.int (iZ y1), .ref b]) C (m_X10_list3 g l h0 hR h7 h10 hK hy2 hy3 hy4 (by omega)) my_X10_list3 ml_X10_192 (pw_rec.of C h0 cl_X10.1) rfl ⟨Nat.le_of_ble_eq_true rfl, Nat.le_of_ble_eq_true rfl⟩ ⟨by (try dsimp only); omega, by (try dsimp only); omega⟩ rfl (Nat.le_of_ble_eq_true rfl) dX10_list4_7 ?_
  rintro _ w_13 ⟨z_1, t_2, n_3, sN_4, Z_5, rfl, e_6, R_7, x_8, hn_9, hs_10, hZ_11, z_1v, o_12⟩
  have x_81 := x_8.1
  have R_7n := R_7.n
  have v_14 := Vl.ext hy1 x_8
  have v_15 := Vl.ext hy2 x_8
  have v_16 := Vl.ext hy3 x_8
  have v_17 := Vl.ext hy4 x_8
  have K_18 := RK.ext hK x_8
  have z_1r := Vl.rg R_7 z_1v
  refine pw_stk (st' := [.int (iZ z_1), .int (iZ y1), .ref b]) rfl ?_
  refine pw_callV (As := [.int (iZ y1), .int (iZ z_1)]) (st := []) C (rd_pair g l e_6 R_7 rfl rfl v_14 z_1v (by omega)) my_X10_pair ml_X10_183 (pw_rec.of C e_6 cl_X10.1) rfl ⟨Nat.le_of_ble_eq_true rfl, Nat.le_of_ble_eq_true rfl⟩ ⟨by (try dsimp only); omega, by (try dsimp only); omega⟩ rfl (Nat.le_of_ble_eq_true rfl) dX10_list4_10 ?_
  rintro _ w_31 ⟨z_19, t_20, n_21, sN_22, Z_23, rfl, e_24, R_25, x_26, hn_27, hs_28, hZ_29, z_19v, o_30⟩
  have x_261 := x_26.1
  have R_25n := R_25.n
  have v_32 := Vl.ext v_14 x_26
  have v_33 := Vl.ext v_15 x_26
  have v_34 := Vl.ext v_16 x_26
  have v_35 := Vl.ext v_17 x_26
  have v_36 := Vl.ext z_1v x_26
  have K_37 := RK.ext K_18 x_26
  have z_19r := Vl.rg R_25 z_19v
  refine pw_stk (st' := [.int (iZ z_19)]) rfl ?_
  exact pw_iret C hr dX10_list4_13 ⟨z_19, t_20, n_21, sN_22, Z_23, rfl, e_24, R_25, (x_8.tr x_26), by omega, by omega, fun j j0 j1 => ((hZ_29 j j0 (by omega)).trans (hZ_11 j j0 j1)), z_19v, fun k hk => (o_30 k (by omega)).trans (o_12 k (by omega))⟩

