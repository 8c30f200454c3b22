-- ===== the face: the checksum =====
set_option maxHeartbeats 4000000 in
set_option maxRecDepth 100000 in
theorem c_X4_digestOf (l : Launch) (D : va_G) (cI : ClassId) (sz : Nat) (h t0 l0 m0 w0 : Nat) (a b : Nat → Nat) (σ : SS) (f : Nat → Int32) (ψ : YS) (d : Int64) (x : Int32) (t : Nat) (hn : s_n σ ≤ 10) : Met l yX4_digestOf wsX4_digestOf ({ frames := 6, cells := 0, slots := 0, locals := 144 } : Room) (va_Pc [.ref h, .long d, .int x] (preSX D cI (wW h (a 0) t0 l0 m0 ++ sW cI a σ ++ mW cI m0 (b 0) w0 f ++ yW cI b ψ) sz t)) (va_Ql (fun (r : Int64) (u : (SS × (Nat → Int32) × YS)) => r = dgOne σ d x ∧ u.1 = σ) (fun (u : (SS × (Nat → Int32) × YS)) => posM D cI (va_A (wW h (a 0) t0 l0 m0 ++ sW cI a σ ++ mW cI m0 (b 0) w0 f ++ yW cI b ψ) sz) (wW h (a 0) t0 l0 m0 ++ sW cI a u.1 ++ mW cI m0 (b 0) w0 u.2.1 ++ yW cI b u.2.2)) (va_A (wW h (a 0) t0 l0 m0 ++ sW cI a σ ++ mW cI m0 (b 0) w0 f ++ yW cI b ψ) sz)) 0 0 (va_A (wW h (a 0) t0 l0 m0 ++ sW cI a σ ++ mW cI m0 (b 0) w0 f ++ yW cI b ψ) sz) := by
  refine Met.ofW (cc := cX4_digestOf) (maxL := 7) (ret := (some .long)) (by decide) rfl ?_
  intro p e s m args below meth c s₁ B hml hv
  obtain ⟨rfl, ⟨hsz, hP, hK, hE, hD0⟩, hSX⟩ := hv
  have hx := B.exec
  have hb := B.bytes
  have hr := B.returns
  have hts := atoms_spec (ws := wsX4_digestOf) B.pre
  have hown : s.vm.findClass RX4 = some m.cls := findClass_of_methodNamed B.named
  have hlocks := B.notSynchronized
  subst hsz
  have hD := hD0.self (sz := s.heap.size)
  generalize hAe : va_A (wW h (a 0) t0 l0 m0 ++ sW cI a σ ++ mW cI m0 (b 0) w0 f ++ yW cI b ψ) s.heap.size = A at hD hSX ⊢
  have hA : ∀ q : Nat, s.heap.size ≤ q → A q := fun q h => by rw [← hAe]; exact Or.inr h
  have hS : va_S A s.heap s.heap [] := va_S.rf
  have hP : va_P D vwCl (wW h (a 0) t0 l0 m0 ++ sW cI a σ ++ mW cI m0 (b 0) w0 f ++ yW cI b ψ) s.heap := hP
  have hl := lv_entry ([.ref h, .long d, .int x]) (n := 7) (Nat.le_of_ble_eq_true rfl)
  rw [lg_entry_eq]
  generalize (lg_sl ([.ref h, .long d, .int x]) ++ List.replicate (7 - (lg_sl ([.ref h, .long d, .int x])).length) Slot.unset).toArray = ls at hl ⊢
  have hl : lv_has ls 7 [(0, .ref h), (1, .long d), (3, .int x)] := hl
  refine lv_lload_n hx hb dX4_digestOf_0 rfl (lv_at hl 1 rfl) ?_
  refine lv_lstore (lv' := [(4, .long d), (0, .ref h), (1, .long d), (3, .int x)]) hx hb dX4_digestOf_1 hl (by decide) rfl (fun ls hl => ?_)
  refine lv_iconst (v := 0) hx hb dX4_digestOf_3 (by decide) ?_
  refine lv_istore (lv' := [(6, .int 0), (4, .long d), (0, .ref h), (1, .long d), (3, .int x)]) hx hb dX4_digestOf_4 hl (by decide) rfl (fun ls hl => ?_)
  have L6 : ∀ (n k : Nat) (d1 : Int64) (hk : k + n = 10) (h1 : daL σ x 10 0 d = daL σ x n k d1) (H : Heap) (locs : List Loc) (ls : Array Slot), lv_has ls 7 [(6, .int (nI k)), (4, .long d1), (0, .ref h), (1, .long d), (3, .int x)] → va_P D vwCl (wW h (a 0) t0 l0 m0 ++ sW cI a σ ++ mW cI m0 (b 0) w0 f ++ yW cI b ψ) H → va_D A (wW h (a 0) t0 l0 m0 ++ sW cI a σ ++ mW cI m0 (b 0) w0 f ++ yW cI b ψ) → va_S A s.heap H locs → W p l e ({ frames := 6, cells := 0, slots := 0, locals := 144 } : Room) s m ([.ref h, .long d, .int x] : List Value).toArray below meth c H locs 0 0 (MQ below (va_Ql (fun (r : Int64) (u : (SS × (Nat → Int32) × YS)) => r = dgOne σ d x ∧ u.1 = σ) (fun (u : (SS × (Nat → Int32) × YS)) => posM D cI A (wW h (a 0) t0 l0 m0 ++ sW cI a u.1 ++ mW cI m0 (b 0) w0 u.2.1 ++ yW cI b u.2.2)) A) ([.ref h, .long d, .int x] : List Value).toArray s 0 0 A) (F0 m 6 ls []) := by
    intro n
    induction n with
    | zero =>
      intro k d1 hk h1 H locs ls hl hP hD hS
      refine lv_iload hx hb dX4_digestOf_6 (lv_at hl 0 rfl) ?_
      refine lv_bipush (v := 9) hx hb dX4_digestOf_8 (by decide) ?_
      refine lv_icmp_gt (tgt := 36) hx hb dX4_digestOf_10 (by decide) (fun c_10 => ?_) (fun c_10 => absurd ((nI_lt (a := 9) (by omega) (by omega))) c_10)
      refine lv_iconst (v := 0) hx hb dX4_digestOf_36 (by decide) ?_
      refine lv_istore (lv' := [(6, .int 0), (4, .long d1), (0, .ref h), (1, .long d), (3, .int x)]) hx hb dX4_digestOf_37 hl (by decide) rfl (fun ls hl => ?_)
      have L39 : ∀ (n2 k2 : Nat) (d2 : Int64) (hk2 : k2 + n2 = 5) (h2 : deL σ x 5 0 (daL σ x 10 0 d) = deL σ x n2 k2 d2) (H : Heap) (locs : List Loc) (ls : Array Slot), lv_has ls 7 [(6, .int (nI k2)), (4, .long d2), (0, .ref h), (1, .long d), (3, .int x)] → va_P D vwCl (wW h (a 0) t0 l0 m0 ++ sW cI a σ ++ mW cI m0 (b 0) w0 f ++ yW cI b ψ) H → va_D A (wW h (a 0) t0 l0 m0 ++ sW cI a σ ++ mW cI m0 (b 0) w0 f ++ yW cI b ψ) → va_S A s.heap H locs → W p l e ({ frames := 6, cells := 0, slots := 0, locals := 144 } : Room) s m ([.ref h, .long d, .int x] : List Value).toArray below meth c H locs 0 0 (MQ below (va_Ql (fun (r : Int64) (u : (SS × (Nat → Int32) × YS)) => r = dgOne σ d x ∧ u.1 = σ) (fun (u : (SS × (Nat → Int32) × YS)) => posM D cI A (wW h (a 0) t0 l0 m0 ++ sW cI a u.1 ++ mW cI m0 (b 0) w0 u.2.1 ++ yW cI b u.2.2)) A) ([.ref h, .long d, .int x] : List Value).toArray s 0 0 A) (F0 m 39 ls []) := by
        intro n2
        induction n2 with
        | zero =>
          intro k2 d2 hk2 h2 H locs ls hl hP hD hS
          refine lv_iload hx hb dX4_digestOf_39 (lv_at hl 0 rfl) ?_
          refine lv_iconst (v := 5) hx hb dX4_digestOf_41 (by decide) ?_
          refine lv_icmp_ge (tgt := 91) hx hb dX4_digestOf_42 (by decide) (fun c_42 => ?_) (fun c_42 => absurd (nI_le (a := 5) (by omega) (by omega)) c_42)
          refine lv_aload_n hx hb dX4_digestOf_91 rfl (lv_at hl 2 rfl) ?_
          refine va_get (D := D) (ci := 4) (v := .ref m0) (C := RX4) (T := TX4) (N := 4) hx hb hts (by decide +kernel) hown hK hP 0 rfl rfl 3 (by decide) (hts (.fieldLink RX4 29 "Warren" "mind" "LWarren$Mind;") (by decide +kernel)) (fun _ h9 => h9) rfl dX4_digestOf_92 ?_
          refine lv_aload_n hx hb dX4_digestOf_95 rfl (lv_at hl 2 rfl) ?_
          refine va_get (D := D) (ci := 4) (v := .ref (a 0)) (C := RX4) (T := TX4) (N := 4) hx hb hts (by decide +kernel) hown hK hP 0 rfl rfl 0 (by decide) (hts (.fieldLink RX4 12 "Warren" "state" "LWarren$State;") (by decide +kernel)) (fun _ h9 => h9) rfl dX4_digestOf_96 ?_
          refine lv_iload_n hx hb dX4_digestOf_99 rfl (lv_at hl 4 rfl) ?_
          have hFc := va_free (wc := mW cI m0 (b 0) w0 f ++ yW cI b ψ ++ sW cI a σ) hD hS hA [7, 8, 9, 10, 11, 1, 2, 3, 4, 5, 6] rfl
          refine va_callv (va_runV (As := [.ref (a 0), .int x]) (rest := []) ⟨hx, hb, hml, hown, hts⟩ (c_X0_weigh l D cI _ m0 w0 f b ψ a σ x t hn) (cwV 2 hts gX4_digestOf_X0_weigh rfl rfl rfl (by decide +kernel) ⟨Nat.le_of_ble_eq_true rfl, Nat.le_of_ble_eq_true rfl⟩) ⟨preSX_blind, va_recv hK hP (ci := 1) (q0 := 7) rfl rfl, preSX_of (hP.sub (ws' := mW cI m0 (b 0) w0 f ++ yW cI b ψ ++ sW cI a σ) [7, 8, 9, 10, 11, 1, 2, 3, 4, 5, 6] rfl) hK hE (hD.sub (ws' := mW cI m0 (b 0) w0 f ++ yW cI b ψ ++ sW cI a σ) [7, 8, 9, 10, 11, 1, 2, 3, 4, 5, 6] (by decide) rfl) hSX hS hFc [.ref m0, .ref (a 0), .int x]⟩ rfl rfl hl.1 rfl (lv_room (Nat.le_of_ble_eq_true rfl)) dX4_digestOf_100 ⟨Nat.le_of_ble_eq_true rfl, Nat.le_of_ble_eq_true rfl⟩) hS (fun q _ h => hFc q h) hFc (fun u t9 H1 locs ht hvm hw hB hz1 hk1 hS => ?_)
          obtain ⟨hP1, hK1, hD1⟩ := hB
          rw [ht] at hP1
          obtain ⟨φ100, rfl⟩ : ∃ z, z = u := ⟨_, rfl⟩
          obtain ⟨hP, hD⟩ := va_join (wr := wW h (a 0) t0 l0 m0) (w1 := mW cI m0 (b 0) w0 (worthF σ x) ++ yW cI b φ100 ++ sW cI a σ) hP hD [7, 8, 9, 10, 11, 1, 2, 3, 4, 5, 6] [0] rfl rfl (by decide) (by decide) hk1 hFc hP1 hD1
          generalize H1 = H at hP hS ⊢
          have hP : va_P D vwCl (wW h (a 0) t0 l0 m0 ++ mW cI m0 (b 0) w0 (worthF σ x) ++ yW cI b φ100 ++ sW cI a σ) H := hP
          have hD : va_D A (wW h (a 0) t0 l0 m0 ++ mW cI m0 (b 0) w0 (worthF σ x) ++ yW cI b φ100 ++ sW cI a σ) := hD
          refine lv_lload hx hb dX4_digestOf_103 (lv_at hl 1 rfl) ?_
          refine lv_ldc2 hx hb hown (hts (.constantLong RX4 225 (31)) (by decide +kernel)) dX4_digestOf_105 ?_
          refine lv_lmul hx hb dX4_digestOf_108 ?_
          refine lv_aload_n hx hb dX4_digestOf_109 rfl (lv_at hl 2 rfl) ?_
          refine va_get (D := D) (ci := 4) (v := .ref (a 0)) (C := RX4) (T := TX4) (N := 4) hx hb hts (by decide +kernel) hown hK hP 0 rfl rfl 0 (by decide) (hts (.fieldLink RX4 12 "Warren" "state" "LWarren$State;") (by decide +kernel)) (fun _ h9 => h9) rfl dX4_digestOf_110 ?_
          refine lv_iload_n hx hb dX4_digestOf_113 rfl (lv_at hl 4 rfl) ?_
          refine vp_callSi (va_Run.run (va_runV (As := [.int x]) (rest := [.long (d2 * (31))]) ⟨hx, hb, hml, hown, hts⟩ (c_X2_targetOf l D cI a σ x hn) (cwV 1 hts gX4_digestOf_X2_targetOf rfl rfl rfl (by decide +kernel) ⟨Nat.le_of_ble_eq_true rfl, Nat.le_of_ble_eq_true rfl⟩) ⟨preR_blind, va_recv hK hP (ci := 2) (q0 := 6) rfl rfl, preR_of (hP.sub (ws' := sW cI a σ) [6, 7, 8, 9, 10, 11] rfl) hK hE [.ref (a 0), .int x]⟩ rfl rfl hl.1 rfl (lv_room (Nat.le_of_ble_eq_true rfl)) dX4_digestOf_114 ⟨Nat.zero_le _, Nat.zero_le _⟩)) (fun r hr9 => ?_)
          subst hr9
          refine lv_i2l (v := (targetF σ x).toInt64) hx hb dX4_digestOf_117 rfl ?_
          refine lv_ladd hx hb dX4_digestOf_118 ?_
          refine lv_lstore (lv' := [(4, .long ((d2 * (31)) + (targetF σ x).toInt64)), (6, .int (nI k2)), (0, .ref h), (1, .long d), (3, .int x)]) hx hb dX4_digestOf_119 hl (by decide) rfl (fun ls hl => ?_)
          refine lv_lload hx hb dX4_digestOf_121 (lv_at hl 0 rfl) ?_
          refine lv_ldc2 hx hb hown (hts (.constantLong RX4 225 (31)) (by decide +kernel)) dX4_digestOf_123 ?_
          refine lv_lmul hx hb dX4_digestOf_126 ?_
          refine lv_aload_n hx hb dX4_digestOf_127 rfl (lv_at hl 2 rfl) ?_
          refine va_get (D := D) (ci := 4) (v := .ref m0) (C := RX4) (T := TX4) (N := 4) hx hb hts (by decide +kernel) hown hK hP 0 rfl rfl 3 (by decide) (hts (.fieldLink RX4 29 "Warren" "mind" "LWarren$Mind;") (by decide +kernel)) (fun _ h9 => h9) rfl dX4_digestOf_128 ?_
          refine vp_callSi (va_Run.run (va_runV (As := []) (rest := [.long (((d2 * (31)) + (targetF σ x).toInt64) * (31))]) ⟨hx, hb, hml, hown, hts⟩ (c_X0_best l D cI m0 (b 0) w0 (worthF σ x)) (cwV 0 hts gX4_digestOf_X0_best rfl rfl rfl (by decide +kernel) ⟨Nat.le_of_ble_eq_true rfl, Nat.le_of_ble_eq_true rfl⟩) ⟨preR_blind, va_recv hK hP (ci := 1) (q0 := 1) rfl rfl, preR_of (hP.sub (ws' := mW cI m0 (b 0) w0 (worthF σ x)) [1, 2] rfl) hK hE [.ref m0]⟩ rfl rfl hl.1 rfl (lv_room (Nat.le_of_ble_eq_true rfl)) dX4_digestOf_131 ⟨Nat.zero_le _, Nat.zero_le _⟩)) (fun r hr9 => ?_)
          subst hr9
          refine lv_i2l (v := (bestF (worthF σ x)).toInt64) hx hb dX4_digestOf_134 rfl ?_
          refine lv_ladd hx hb dX4_digestOf_135 ?_
          refine lv_lstore (lv' := [(4, .long ((((d2 * (31)) + (targetF σ x).toInt64) * (31)) + (bestF (worthF σ x)).toInt64)), (6, .int (nI k2)), (0, .ref h), (1, .long d), (3, .int x)]) hx hb dX4_digestOf_136 hl (by decide) rfl (fun ls hl => ?_)
          refine lv_iconst (v := 0) hx hb dX4_digestOf_138 (by decide) ?_
          refine lv_istore (lv' := [(6, .int 0), (4, .long ((((d2 * (31)) + (targetF σ x).toInt64) * (31)) + (bestF (worthF σ x)).toInt64)), (0, .ref h), (1, .long d), (3, .int x)]) hx hb dX4_digestOf_139 hl (by decide) rfl (fun ls hl => ?_)
          have L141 : ∀ (n3 k3 : Nat) (d3 : Int64) (hk3 : k3 + n3 = 8) (h3 : dgOne σ d x = dwL (worthF σ x) n3 k3 d3) (H : Heap) (locs : List Loc) (ls : Array Slot), lv_has ls 7 [(6, .int (nI k3)), (4, .long d3), (0, .ref h), (1, .long d), (3, .int x)] → va_P D vwCl (wW h (a 0) t0 l0 m0 ++ mW cI m0 (b 0) w0 (worthF σ x) ++ yW cI b φ100 ++ sW cI a σ) H → va_D A (wW h (a 0) t0 l0 m0 ++ mW cI m0 (b 0) w0 (worthF σ x) ++ yW cI b φ100 ++ sW cI a σ) → va_S A s.heap H locs → W p l e ({ frames := 6, cells := 0, slots := 0, locals := 144 } : Room) s m ([.ref h, .long d, .int x] : List Value).toArray below meth c H locs 0 0 (MQ below (va_Ql (fun (r : Int64) (u : (SS × (Nat → Int32) × YS)) => r = dgOne σ d x ∧ u.1 = σ) (fun (u : (SS × (Nat → Int32) × YS)) => posM D cI A (wW h (a 0) t0 l0 m0 ++ sW cI a u.1 ++ mW cI m0 (b 0) w0 u.2.1 ++ yW cI b u.2.2)) A) ([.ref h, .long d, .int x] : List Value).toArray s 0 0 A) (F0 m 141 ls []) := by
            intro n3
            induction n3 with
            | zero =>
              intro k3 d3 hk3 h3 H locs ls hl hP hD hS
              refine lv_iload hx hb dX4_digestOf_141 (lv_at hl 0 rfl) ?_
              refine lv_bipush (v := 8) hx hb dX4_digestOf_143 (by decide) ?_
              refine lv_icmp_ge (tgt := 173) hx hb dX4_digestOf_145 (by decide) (fun c_145 => ?_) (fun c_145 => absurd (nI_le (a := 8) (by omega) (by omega)) c_145)
              refine lv_lload hx hb dX4_digestOf_173 (lv_at hl 1 rfl) ?_
              have hP9 := hP.sub (ws' := wW h (a 0) t0 l0 m0 ++ sW cI a σ ++ mW cI m0 (b 0) w0 (worthF σ x) ++ yW cI b φ100) [0, 6, 7, 8, 9, 10, 11, 1, 2, 3, 4, 5] rfl
              have hD9 := hD.sub (ws' := wW h (a 0) t0 l0 m0 ++ sW cI a σ ++ mW cI m0 (b 0) w0 (worthF σ x) ++ yW cI b φ100) [0, 6, 7, 8, 9, 10, 11, 1, 2, 3, 4, 5] (by decide) rfl
              exact W.lret (v := d3) hx hb hr (fun T9 ht hW => ⟨⟨d3, (σ, (worthF σ x), φ100), rfl, ⟨by rw [h3]; rfl, rfl⟩, by rw [ht]; exact hP9, va_K.moved hW.alike hK, hD9⟩, hS.F ht⟩) hS.2.2 dX4_digestOf_175
            | succ n3 ih141 =>
              intro k3 d3 hk3 h3 H locs ls hl hP hD hS
              refine lv_iload hx hb dX4_digestOf_141 (lv_at hl 0 rfl) ?_
              refine lv_bipush (v := 8) hx hb dX4_digestOf_143 (by decide) ?_
              refine lv_icmp_ge (tgt := 173) hx hb dX4_digestOf_145 (by decide) (fun c_145 => absurd c_145 (nI_ge (b := 8) (by omega) (by omega))) (fun c_145 => ?_)
              refine lv_lload hx hb dX4_digestOf_148 (lv_at hl 1 rfl) ?_
              refine lv_ldc2 hx hb hown (hts (.constantLong RX4 225 (31)) (by decide +kernel)) dX4_digestOf_150 ?_
              refine lv_lmul hx hb dX4_digestOf_153 ?_
              refine lv_aload_n hx hb dX4_digestOf_154 rfl (lv_at hl 2 rfl) ?_
              refine va_get (D := D) (ci := 4) (v := .ref m0) (C := RX4) (T := TX4) (N := 4) hx hb hts (by decide +kernel) hown hK hP 0 rfl rfl 3 (by decide) (hts (.fieldLink RX4 29 "Warren" "mind" "LWarren$Mind;") (by decide +kernel)) (fun _ h9 => h9) rfl dX4_digestOf_155 ?_
              refine lv_iload hx hb dX4_digestOf_158 (lv_at hl 0 rfl) ?_
              refine vp_callSi (va_Run.run (va_runV (As := [.int (nI k3)]) (rest := [.long (d3 * (31))]) ⟨hx, hb, hml, hown, hts⟩ (c_X0_worthOf l D cI m0 (b 0) w0 (worthF σ x) (nI k3)) (cwV 1 hts gX4_digestOf_X0_worthOf rfl rfl rfl (by decide +kernel) ⟨Nat.le_of_ble_eq_true rfl, Nat.le_of_ble_eq_true rfl⟩) ⟨preR_blind, va_recv hK hP (ci := 1) (q0 := 1) rfl rfl, preR_of (hP.sub (ws' := mW cI m0 (b 0) w0 (worthF σ x)) [1, 2] rfl) hK hE [.ref m0, .int (nI k3)]⟩ rfl rfl hl.1 rfl (lv_room (Nat.le_of_ble_eq_true rfl)) dX4_digestOf_160 ⟨Nat.zero_le _, Nat.zero_le _⟩)) (fun r hr9 => ?_)
              subst hr9
              refine lv_i2l (v := (worthOfF (worthF σ x) (nI k3)).toInt64) hx hb dX4_digestOf_163 rfl ?_
              refine lv_ladd hx hb dX4_digestOf_164 ?_
              refine lv_lstore (lv' := [(4, .long ((d3 * (31)) + (worthOfF (worthF σ x) (nI k3)).toInt64)), (6, .int (nI k3)), (0, .ref h), (1, .long d), (3, .int x)]) hx hb dX4_digestOf_165 hl (by decide) rfl (fun ls hl => ?_)
              refine lv_iinc (v := (nI (k3 + 1))) (lv' := [(6, .int (nI (k3 + 1))), (4, .long ((d3 * (31)) + (worthOfF (worthF σ x) (nI k3)).toInt64)), (0, .ref h), (1, .long d), (3, .int x)]) hx hb dX4_digestOf_167 hl (k := 1) rfl (nI_1 k3) (by decide) rfl (fun ls hl => ?_)
              refine lv_goto (tgt := 141) hx hb dX4_digestOf_170 (by decide) ?_
              exact ih141 (k3 + 1) ((d3 * (31)) + (worthOfF (worthF σ x) (nI k3)).toInt64) (by omega) (by rw [h3]; rfl) _ _ ls (lv_sub hl [0, 1, 2, 3, 4] rfl) hP hD hS
          exact L141 8 0 ((((d2 * (31)) + (targetF σ x).toInt64) * (31)) + (bestF (worthF σ x)).toInt64) (by omega) (by unfold dgOne; rw [h2]; rfl) _ _ ls (lv_sub hl [0, 1, 2, 3, 4] rfl) hP hD hS
        | succ n2 ih39 =>
          intro k2 d2 hk2 h2 H locs ls hl hP hD hS
          refine lv_iload hx hb dX4_digestOf_39 (lv_at hl 0 rfl) ?_
          refine lv_iconst (v := 5) hx hb dX4_digestOf_41 (by decide) ?_
          refine lv_icmp_ge (tgt := 91) hx hb dX4_digestOf_42 (by decide) (fun c_42 => absurd c_42 (nI_ge (b := 5) (by omega) (by omega))) (fun c_42 => ?_)
          refine lv_lload hx hb dX4_digestOf_45 (lv_at hl 1 rfl) ?_
          refine lv_ldc2 hx hb hown (hts (.constantLong RX4 225 (31)) (by decide +kernel)) dX4_digestOf_47 ?_
          refine lv_lmul hx hb dX4_digestOf_50 ?_
          refine lv_aload_n hx hb dX4_digestOf_51 rfl (lv_at hl 2 rfl) ?_
          refine va_get (D := D) (ci := 4) (v := .ref (a 0)) (C := RX4) (T := TX4) (N := 4) hx hb hts (by decide +kernel) hown hK hP 0 rfl rfl 0 (by decide) (hts (.fieldLink RX4 12 "Warren" "state" "LWarren$State;") (by decide +kernel)) (fun _ h9 => h9) rfl dX4_digestOf_52 ?_
          refine lv_iload_n hx hb dX4_digestOf_55 rfl (lv_at hl 4 rfl) ?_
          refine lv_iload hx hb dX4_digestOf_56 (lv_at hl 0 rfl) ?_
          refine vp_callSi (va_Run.run (va_runV (As := [.int x, .int (nI k2)]) (rest := [.long (d2 * (31))]) ⟨hx, hb, hml, hown, hts⟩ (c_X2_stackOf l D cI a σ x (nI k2)) (cwV 2 hts gX4_digestOf_X2_stackOf rfl rfl rfl (by decide +kernel) ⟨Nat.le_of_ble_eq_true rfl, Nat.le_of_ble_eq_true rfl⟩) ⟨preR_blind, va_recv hK hP (ci := 2) (q0 := 1) rfl rfl, preR_of (hP.sub (ws' := sW cI a σ) [1, 2, 3, 4, 5, 6] rfl) hK hE [.ref (a 0), .int x, .int (nI k2)]⟩ rfl rfl hl.1 rfl (lv_room (Nat.le_of_ble_eq_true rfl)) dX4_digestOf_58 ⟨Nat.zero_le _, Nat.zero_le _⟩)) (fun r hr9 => ?_)
          subst hr9
          refine lv_i2l (v := (stackF σ x (nI k2)).toInt64) hx hb dX4_digestOf_61 rfl ?_
          refine lv_ladd hx hb dX4_digestOf_62 ?_
          refine lv_lstore (lv' := [(4, .long ((d2 * (31)) + (stackF σ x (nI k2)).toInt64)), (6, .int (nI k2)), (0, .ref h), (1, .long d), (3, .int x)]) hx hb dX4_digestOf_63 hl (by decide) rfl (fun ls hl => ?_)
          refine lv_lload hx hb dX4_digestOf_65 (lv_at hl 0 rfl) ?_
          refine lv_ldc2 hx hb hown (hts (.constantLong RX4 225 (31)) (by decide +kernel)) dX4_digestOf_67 ?_
          refine lv_lmul hx hb dX4_digestOf_70 ?_
          refine lv_aload_n hx hb dX4_digestOf_71 rfl (lv_at hl 2 rfl) ?_
          refine va_get (D := D) (ci := 4) (v := .ref (a 0)) (C := RX4) (T := TX4) (N := 4) hx hb hts (by decide +kernel) hown hK hP 0 rfl rfl 0 (by decide) (hts (.fieldLink RX4 12 "Warren" "state" "LWarren$State;") (by decide +kernel)) (fun _ h9 => h9) rfl dX4_digestOf_72 ?_
          refine lv_iload_n hx hb dX4_digestOf_75 rfl (lv_at hl 4 rfl) ?_
          refine lv_iload hx hb dX4_digestOf_76 (lv_at hl 1 rfl) ?_
          refine vp_callSi (va_Run.run (va_runV (As := [.int x, .int (nI k2)]) (rest := [.long (((d2 * (31)) + (stackF σ x (nI k2)).toInt64) * (31))]) ⟨hx, hb, hml, hown, hts⟩ (c_X2_turnsOf l D cI a σ x (nI k2)) (cwV 2 hts gX4_digestOf_X2_turnsOf rfl rfl rfl (by decide +kernel) ⟨Nat.le_of_ble_eq_true rfl, Nat.le_of_ble_eq_true rfl⟩) ⟨preR_blind, va_recv hK hP (ci := 2) (q0 := 1) rfl rfl, preR_of (hP.sub (ws' := sW cI a σ) [1, 2, 3, 4, 5, 6] rfl) hK hE [.ref (a 0), .int x, .int (nI k2)]⟩ rfl rfl hl.1 rfl (lv_room (Nat.le_of_ble_eq_true rfl)) dX4_digestOf_78 ⟨Nat.zero_le _, Nat.zero_le _⟩)) (fun r hr9 => ?_)
          subst hr9
          refine lv_i2l (v := (turnsF σ x (nI k2)).toInt64) hx hb dX4_digestOf_81 rfl ?_
          refine lv_ladd hx hb dX4_digestOf_82 ?_
          refine lv_lstore (lv' := [(4, .long ((((d2 * (31)) + (stackF σ x (nI k2)).toInt64) * (31)) + (turnsF σ x (nI k2)).toInt64)), (6, .int (nI k2)), (0, .ref h), (1, .long d), (3, .int x)]) hx hb dX4_digestOf_83 hl (by decide) rfl (fun ls hl => ?_)
          refine lv_iinc (v := (nI (k2 + 1))) (lv' := [(6, .int (nI (k2 + 1))), (4, .long ((((d2 * (31)) + (stackF σ x (nI k2)).toInt64) * (31)) + (turnsF σ x (nI k2)).toInt64)), (0, .ref h), (1, .long d), (3, .int x)]) hx hb dX4_digestOf_85 hl (k := 1) rfl (nI_1 k2) (by decide) rfl (fun ls hl => ?_)
          refine lv_goto (tgt := 39) hx hb dX4_digestOf_88 (by decide) ?_
          exact ih39 (k2 + 1) ((((d2 * (31)) + (stackF σ x (nI k2)).toInt64) * (31)) + (turnsF σ x (nI k2)).toInt64) (by omega) (by rw [h2]; rfl) _ _ ls (lv_sub hl [0, 1, 2, 3, 4] rfl) hP hD hS
      exact L39 5 0 d1 (by omega) (by rw [h1]; rfl) _ _ ls (lv_sub hl [0, 1, 2, 3, 4] rfl) hP hD hS
    | succ n ih6 =>
      intro k d1 hk h1 H locs ls hl hP hD hS
      refine lv_iload hx hb dX4_digestOf_6 (lv_at hl 0 rfl) ?_
      refine lv_bipush (v := 9) hx hb dX4_digestOf_8 (by decide) ?_
      refine lv_icmp_gt (tgt := 36) hx hb dX4_digestOf_10 (by decide) (fun c_10 => absurd c_10 ((nI_nlt (b := k) (a := 9) (by omega) (by omega)))) (fun c_10 => ?_)
      refine lv_lload hx hb dX4_digestOf_13 (lv_at hl 1 rfl) ?_
      refine lv_ldc2 hx hb hown (hts (.constantLong RX4 225 (31)) (by decide +kernel)) dX4_digestOf_15 ?_
      refine lv_lmul hx hb dX4_digestOf_18 ?_
      refine lv_aload_n hx hb dX4_digestOf_19 rfl (lv_at hl 2 rfl) ?_
      refine lv_iload_n hx hb dX4_digestOf_20 rfl (lv_at hl 4 rfl) ?_
      refine lv_iload hx hb dX4_digestOf_21 (lv_at hl 0 rfl) ?_
      refine vp_callSi (va_Run.run (va_runV (As := [.int x, .int (nI k)]) (rest := [.long (d1 * (31))]) ⟨hx, hb, hml, hown, hts⟩ (c_X4_answerOf l D cI h t0 l0 m0 a σ x (nI k)) (cwV 2 hts gX4_digestOf_X4_answerOf rfl rfl rfl (by decide +kernel) ⟨Nat.le_of_ble_eq_true rfl, Nat.le_of_ble_eq_true rfl⟩) ⟨preR_blind, va_recv hK hP (ci := 4) (q0 := 0) rfl rfl, preR_of (hP.sub (ws' := wW h (a 0) t0 l0 m0 ++ sW cI a σ) [0, 1, 2, 3, 4, 5, 6] rfl) hK hE [.ref h, .int x, .int (nI k)]⟩ rfl rfl hl.1 rfl (lv_room (Nat.le_of_ble_eq_true rfl)) dX4_digestOf_23 ⟨Nat.zero_le _, Nat.zero_le _⟩)) (fun r hr9 => ?_)
      subst hr9
      refine lv_i2l (v := (answerF σ x (nI k)).toInt64) hx hb dX4_digestOf_26 rfl ?_
      refine lv_ladd hx hb dX4_digestOf_27 ?_
      refine lv_lstore (lv' := [(4, .long ((d1 * (31)) + (answerF σ x (nI k)).toInt64)), (6, .int (nI k)), (0, .ref h), (1, .long d), (3, .int x)]) hx hb dX4_digestOf_28 hl (by decide) rfl (fun ls hl => ?_)
      refine lv_iinc (v := (nI (k + 1))) (lv' := [(6, .int (nI (k + 1))), (4, .long ((d1 * (31)) + (answerF σ x (nI k)).toInt64)), (0, .ref h), (1, .long d), (3, .int x)]) hx hb dX4_digestOf_30 hl (k := 1) rfl (nI_1 k) (by decide) rfl (fun ls hl => ?_)
      refine lv_goto (tgt := 6) hx hb dX4_digestOf_33 (by decide) ?_
      exact ih6 (k + 1) ((d1 * (31)) + (answerF σ x (nI k)).toInt64) (by omega) (by rw [h1]; rfl) _ _ ls (lv_sub hl [0, 1, 2, 3, 4] rfl) hP hD hS
  exact L6 10 0 d (by omega) rfl _ _ ls (lv_sub hl [0, 1, 2, 3, 4] rfl) hP hD hS
set_option maxHeartbeats 4000000 in
set_option maxRecDepth 100000 in
theorem c_X4_digest (l : Launch) (hst : l.stackTraces = false) (D : va_G) (cI : ClassId) (sz : Nat) (h t0 l0 m0 w0 : Nat) (a b : Nat → Nat) (σ : SS) (f : Nat → Int32) (ψ : YS) (mc : Int32) (e0 g : Nat) (t : Nat) (hn : s_n σ ≤ 10) : vx_Met l yX4_digest wsX4_digest ({ frames := 7, cells := 1, slots := 6, locals := 170 } : Room) (va_Pc [.ref h] (preXS D cI (wW h (a 0) t0 l0 m0 ++ sW cI a σ ++ mW cI m0 (b 0) w0 f ++ yW cI b ψ ++ wL l0 mc e0 g) sz t)) (va_Ql (fun (r : Int64) (u : (SS × (Nat → Int32) × YS)) => 0 = 0 ∧ r = digestF σ g ∧ u.1 = σ) (fun (u : (SS × (Nat → Int32) × YS)) => posM D cI (va_A (wW h (a 0) t0 l0 m0 ++ sW cI a σ ++ mW cI m0 (b 0) w0 f ++ yW cI b ψ ++ wL l0 mc e0 g) sz) (wW h (a 0) t0 l0 m0 ++ sW cI a u.1 ++ mW cI m0 (b 0) w0 u.2.1 ++ yW cI b u.2.2 ++ wL l0 mc e0 g)) (va_A (wW h (a 0) t0 l0 m0 ++ sW cI a σ ++ mW cI m0 (b 0) w0 f ++ yW cI b ψ ++ wL l0 mc e0 g) sz)) (thrX (0) nmS D cI (va_A (wW h (a 0) t0 l0 m0 ++ sW cI a σ ++ mW cI m0 (b 0) w0 f ++ yW cI b ψ ++ wL l0 mc e0 g) sz) (wW h (a 0) t0 l0 m0 ++ sW cI a σ ++ mW cI m0 (b 0) w0 f ++ yW cI b ψ ++ wL l0 mc e0 g)) 1 6 (va_A (wW h (a 0) t0 l0 m0 ++ sW cI a σ ++ mW cI m0 (b 0) w0 f ++ yW cI b ψ ++ wL l0 mc e0 g) sz) := by
  refine vx_ofW (cc := cX4_digest) (maxL := 4) (ret := (some .long)) (by decide) rfl ?_
  intro p e s m args below meth c s₁ B hml hno hv
  obtain ⟨rfl, ⟨hsz, hP, hK, hXV, hD0, hTX⟩, hSX⟩ := hv
  have hE := hXV.1
  have hx := B.exec
  have hb := B.bytes
  have hr := B.returns
  have hts := atoms_spec (ws := wsX4_digest) B.pre
  have hown : s.vm.findClass RX4 = some m.cls := findClass_of_methodNamed B.named
  have hlocks := B.notSynchronized
  subst hsz
  have hD := hD0.self (sz := s.heap.size)
  generalize hAe : va_A (wW h (a 0) t0 l0 m0 ++ sW cI a σ ++ mW cI m0 (b 0) w0 f ++ yW cI b ψ ++ wL l0 mc e0 g) s.heap.size = A at hD hTX hSX ⊢
  have hA : ∀ q : Nat, s.heap.size ≤ q → A q := fun q h => by rw [← hAe]; exact Or.inr h
  have hS : va_S A s.heap s.heap [] := va_S.rf
  have hP : va_P D vwCl (wW h (a 0) t0 l0 m0 ++ sW cI a σ ++ mW cI m0 (b 0) w0 f ++ yW cI b ψ ++ wL l0 mc e0 g) s.heap := hP
  have hl := lv_entry ([.ref h]) (n := 4) (Nat.le_of_ble_eq_true rfl)
  rw [lg_entry_eq]
  generalize (lg_sl ([.ref h]) ++ List.replicate (4 - (lg_sl ([.ref h])).length) Slot.unset).toArray = ls at hl ⊢
  have hl : lv_has ls 4 [(0, .ref h)] := hl
  refine lv_ldc2 hx hb hown (hts (.constantLong RX4 223 (58090)) (by decide +kernel)) dX4_digest_0 ?_
  refine lv_lstore_n (lv' := [(1, .long (58090)), (0, .ref h)]) hx hb dX4_digest_3 rfl hl (by decide) rfl (fun ls hl => ?_)
  refine lv_iconst (v := 0) hx hb dX4_digest_4 (by decide) ?_
  refine lv_istore_n (lv' := [(3, .int 0), (1, .long (58090)), (0, .ref h)]) hx hb dX4_digest_5 rfl hl (by decide) rfl (fun ls hl => ?_)
  have L6 : ∀ (n k : Nat) (d : Int64) (hk : k + n = 9) (hsp : dgW σ g 9 0 58090 = dgW σ g n k d) (H : Heap) (locs : List Loc) (ls : Array Slot), lv_has ls 4 [(3, .int (nI k)), (1, .long d), (0, .ref h)] → va_P D vwCl (wW h (a 0) t0 l0 m0 ++ sW cI a σ ++ mW cI m0 (b 0) w0 f ++ yW cI b ψ ++ wL l0 mc e0 g) H → va_D A (wW h (a 0) t0 l0 m0 ++ sW cI a σ ++ mW cI m0 (b 0) w0 f ++ yW cI b ψ ++ wL l0 mc e0 g) → va_S A s.heap H locs → W p l e ({ frames := 7, cells := 1, slots := 6, locals := 170 } : Room) s m ([.ref h] : List Value).toArray below meth c H locs 0 0 (vx_MQ below (va_Ql (fun (r : Int64) (u : (SS × (Nat → Int32) × YS)) => 0 = 0 ∧ r = digestF σ g ∧ u.1 = σ) (fun (u : (SS × (Nat → Int32) × YS)) => posM D cI A (wW h (a 0) t0 l0 m0 ++ sW cI a u.1 ++ mW cI m0 (b 0) w0 u.2.1 ++ yW cI b u.2.2 ++ wL l0 mc e0 g)) A) (thrX (0) nmS D cI A (wW h (a 0) t0 l0 m0 ++ sW cI a σ ++ mW cI m0 (b 0) w0 f ++ yW cI b ψ ++ wL l0 mc e0 g)) ([.ref h] : List Value).toArray s 1 6 A) (F0 m 6 ls []) := by
    intro n
    induction n with
    | zero =>
      intro k d hk hsp H locs ls hl hP hD hS
      refine lv_iload_n hx hb dX4_digest_6 rfl (lv_at hl 0 rfl) ?_
      refine lv_bipush (v := 8) hx hb dX4_digest_7 (by decide) ?_
      refine lv_icmp_gt (tgt := 31) hx hb dX4_digest_9 (by decide) (fun c_9 => ?_) (fun c_9 => absurd ((nI_lt (a := 8) (by omega) (by omega))) c_9)
      refine lv_iconst (v := 0) hx hb dX4_digest_31 (by decide) ?_
      refine lv_istore_n (lv' := [(3, .int 0), (1, .long d), (0, .ref h)]) hx hb dX4_digest_32 rfl hl (by decide) rfl (fun ls hl => ?_)
      have L33 : ∀ (n1 k1 : Nat) (d1 : Int64) (hk1 : k1 + n1 = 160) (hsp1 : dgC σ 160 0 (dgW σ g 9 0 58090) = dgC σ n1 k1 d1) (H : Heap) (locs : List Loc) (ls : Array Slot), lv_has ls 4 [(3, .int (nI k1)), (1, .long d1), (0, .ref h)] → va_P D vwCl (wW h (a 0) t0 l0 m0 ++ sW cI a σ ++ mW cI m0 (b 0) w0 f ++ yW cI b ψ ++ wL l0 mc e0 g) H → va_D A (wW h (a 0) t0 l0 m0 ++ sW cI a σ ++ mW cI m0 (b 0) w0 f ++ yW cI b ψ ++ wL l0 mc e0 g) → va_S A s.heap H locs → W p l e ({ frames := 7, cells := 1, slots := 6, locals := 170 } : Room) s m ([.ref h] : List Value).toArray below meth c H locs 0 0 (vx_MQ below (va_Ql (fun (r : Int64) (u : (SS × (Nat → Int32) × YS)) => 0 = 0 ∧ r = digestF σ g ∧ u.1 = σ) (fun (u : (SS × (Nat → Int32) × YS)) => posM D cI A (wW h (a 0) t0 l0 m0 ++ sW cI a u.1 ++ mW cI m0 (b 0) w0 u.2.1 ++ yW cI b u.2.2 ++ wL l0 mc e0 g)) A) (thrX (0) nmS D cI A (wW h (a 0) t0 l0 m0 ++ sW cI a σ ++ mW cI m0 (b 0) w0 f ++ yW cI b ψ ++ wL l0 mc e0 g)) ([.ref h] : List Value).toArray s 1 6 A) (F0 m 33 ls []) := by
        intro n1
        induction n1 with
        | zero =>
          intro k1 d1 hk1 hsp1 H locs ls hl hP hD hS
          refine lv_iload_n hx hb dX4_digest_33 rfl (lv_at hl 0 rfl) ?_
          refine lv_sipush (v := 160) hx hb dX4_digest_34 (by decide) ?_
          refine lv_icmp_ge (tgt := 62) hx hb dX4_digest_37 (by decide) (fun c_37 => ?_) (fun c_37 => absurd (nI_le (b := k1) (a := 160) (by omega) (by omega)) c_37)
          refine lv_iconst (v := 0) hx hb dX4_digest_62 (by decide) ?_
          refine lv_istore_n (lv' := [(3, .int 0), (1, .long d1), (0, .ref h)]) hx hb dX4_digest_63 rfl hl (by decide) rfl (fun ls hl => ?_)
          have L64 : ∀ (n2 k2 : Nat) (d2 : Int64) (f2 : Nat → Int32) (ψ2 : YS) (hk2 : k2 + n2 = s_n σ) (hsp2 : dgBs σ g = dgBL σ n2 k2 d2) (H : Heap) (locs : List Loc) (ls : Array Slot), lv_has ls 4 [(3, .int (nI k2)), (1, .long d2), (0, .ref h)] → va_P D vwCl (wW h (a 0) t0 l0 m0 ++ sW cI a σ ++ mW cI m0 (b 0) w0 f2 ++ yW cI b ψ2 ++ wL l0 mc e0 g) H → va_D A (wW h (a 0) t0 l0 m0 ++ sW cI a σ ++ mW cI m0 (b 0) w0 f2 ++ yW cI b ψ2 ++ wL l0 mc e0 g) → va_S A s.heap H locs → W p l e ({ frames := 7, cells := 1, slots := 6, locals := 170 } : Room) s m ([.ref h] : List Value).toArray below meth c H locs 0 0 (vx_MQ below (va_Ql (fun (r : Int64) (u : (SS × (Nat → Int32) × YS)) => 0 = 0 ∧ r = digestF σ g ∧ u.1 = σ) (fun (u : (SS × (Nat → Int32) × YS)) => posM D cI A (wW h (a 0) t0 l0 m0 ++ sW cI a u.1 ++ mW cI m0 (b 0) w0 u.2.1 ++ yW cI b u.2.2 ++ wL l0 mc e0 g)) A) (thrX (0) nmS D cI A (wW h (a 0) t0 l0 m0 ++ sW cI a σ ++ mW cI m0 (b 0) w0 f ++ yW cI b ψ ++ wL l0 mc e0 g)) ([.ref h] : List Value).toArray s 1 6 A) (F0 m 64 ls []) := by
            intro n2
            induction n2 with
            | zero =>
              intro k2 d2 f2 ψ2 hk2 hsp2 H locs ls hl hP hD hS
              refine lv_iload_n hx hb dX4_digest_64 rfl (lv_at hl 0 rfl) ?_
              refine lv_bipush (v := 10) hx hb dX4_digest_65 (by decide) ?_
              refine lv_icmp_ge (tgt := 94) hx hb dX4_digest_67 (by decide) (fun c_67 => ?_) (fun c_67 => ?_)
              · refine lv_aload_n hx hb dX4_digest_94 rfl (lv_at hl 2 rfl) ?_
                refine va_get (D := D) (ci := 4) (v := .ref (a 0)) (C := RX4) (T := TX4) (N := 4) hx hb hts (by decide +kernel) hown hK hP 0 rfl rfl 0 (by decide) (hts (.fieldLink RX4 12 "Warren" "state" "LWarren$State;") (by decide +kernel)) (fun _ h9 => h9) rfl dX4_digest_95 ?_
                refine vp_callSi (va_Run.run (va_runV (As := []) (rest := []) ⟨hx, hb, hml, hown, hts⟩ (c_X2_whoseTurn l D cI a σ  hn) (cwV 0 hts gX4_digest_X2_whoseTurn rfl rfl rfl (by decide +kernel) ⟨Nat.le_of_ble_eq_true rfl, Nat.le_of_ble_eq_true rfl⟩) ⟨preR_blind, va_recv hK hP (ci := 2) (q0 := 1) rfl rfl, preR_of (hP.sub (ws' := sW cI a σ) [1, 2, 3, 4, 5, 6] rfl) hK hE [.ref (a 0)]⟩ rfl rfl hl.1 rfl (lv_room (Nat.le_of_ble_eq_true rfl)) dX4_digest_98 ⟨Nat.zero_le _, Nat.zero_le _⟩)) (fun r hr9 => ?_)
                subst hr9
                refine lv_istore_n (lv' := [(3, .int (turnF σ)), (1, .long d2), (0, .ref h)]) hx hb dX4_digest_101 rfl hl (by decide) rfl (fun ls hl => ?_)
                refine lv_iload_n hx hb dX4_digest_102 rfl (lv_at hl 0 rfl) ?_
                refine lv_iconst (v := (-1)) hx hb dX4_digest_103 (by decide) ?_
                refine lv_icmp_ne (tgt := 111) hx hb dX4_digest_104 (by decide) (fun c_104 => ?_) (fun c_104 => ?_)
                · refine lv_lload_n hx hb dX4_digest_111 rfl (lv_at hl 1 rfl) ?_
                  refine lv_ldc2 hx hb hown (hts (.constantLong RX4 225 (31)) (by decide +kernel)) dX4_digest_112 ?_
                  refine lv_lmul hx hb dX4_digest_115 ?_
                  refine lv_aload_n hx hb dX4_digest_116 rfl (lv_at hl 2 rfl) ?_
                  refine va_get (D := D) (ci := 4) (v := .ref (a 0)) (C := RX4) (T := TX4) (N := 4) hx hb hts (by decide +kernel) hown hK hP 0 rfl rfl 0 (by decide) (hts (.fieldLink RX4 12 "Warren" "state" "LWarren$State;") (by decide +kernel)) (fun _ h9 => h9) rfl dX4_digest_117 ?_
                  refine lv_iconst (v := 0) hx hb dX4_digest_120 (by decide) ?_
                  refine lv_aload_n hx hb dX4_digest_121 rfl (lv_at hl 2 rfl) ?_
                  refine va_get (D := D) (ci := 4) (v := .ref (a 0)) (C := RX4) (T := TX4) (N := 4) hx hb hts (by decide +kernel) hown hK hP 0 rfl rfl 0 (by decide) (hts (.fieldLink RX4 12 "Warren" "state" "LWarren$State;") (by decide +kernel)) (fun _ h9 => h9) rfl dX4_digest_122 ?_
                  refine lv_iload_n hx hb dX4_digest_125 rfl (lv_at hl 0 rfl) ?_
                  refine lv_iconst (v := 1) hx hb dX4_digest_126 (by decide) ?_
                  refine vp_callSi (va_Run.run (va_runV (As := [.int (turnF σ), .int 1]) (rest := [.int 0, .ref (a 0), .long (d2 * (31))]) ⟨hx, hb, hml, hown, hts⟩ (c_X2_trait l D cI a σ (turnF σ) 1) (cwV 2 hts gX4_digest_X2_trait rfl rfl rfl (by decide +kernel) ⟨Nat.le_of_ble_eq_true rfl, Nat.le_of_ble_eq_true rfl⟩) ⟨preR_blind, va_recv hK hP (ci := 2) (q0 := 1) rfl rfl, preR_of (hP.sub (ws' := sW cI a σ) [1, 2, 3, 4, 5, 6] rfl) hK hE [.ref (a 0), .int (turnF σ), .int 1]⟩ rfl rfl hl.1 rfl (lv_room (Nat.le_of_ble_eq_true rfl)) dX4_digest_127 ⟨Nat.zero_le _, Nat.zero_le _⟩)) (fun r hr9 => ?_)
                  subst hr9
                  refine vp_callSi (va_Run.run (va_runV (As := [.int 0, .int (traitF σ (turnF σ) 1)]) (rest := [.long (d2 * (31))]) ⟨hx, hb, hml, hown, hts⟩ (c_X2_watchersOf l D cI a σ 0 (traitF σ (turnF σ) 1) hn) (cwV 2 hts gX4_digest_X2_watchersOf rfl rfl rfl (by decide +kernel) ⟨Nat.le_of_ble_eq_true rfl, Nat.le_of_ble_eq_true rfl⟩) ⟨preR_blind, va_recv hK hP (ci := 2) (q0 := 1) rfl rfl, preR_of (hP.sub (ws' := sW cI a σ) [1, 2, 3, 4, 5, 6] rfl) hK hE [.ref (a 0), .int 0, .int (traitF σ (turnF σ) 1)]⟩ rfl rfl hl.1 rfl (lv_room (Nat.le_of_ble_eq_true rfl)) dX4_digest_130 ⟨Nat.zero_le _, Nat.zero_le _⟩)) (fun r hr9 => ?_)
                  subst hr9
                  refine lv_i2l (v := (watchF σ 0 (traitF σ (turnF σ) 1)).toInt64) hx hb dX4_digest_133 rfl ?_
                  refine lv_ladd hx hb dX4_digest_134 ?_
                  have hP9 := hP.sub (ws' := wW h (a 0) t0 l0 m0 ++ sW cI a σ ++ mW cI m0 (b 0) w0 f2 ++ yW cI b ψ2 ++ wL l0 mc e0 g) [0, 1, 2, 3, 4, 5, 6, 7, 8, 9, 10, 11, 12] rfl
                  have hD9 := hD.sub (ws' := wW h (a 0) t0 l0 m0 ++ sW cI a σ ++ mW cI m0 (b 0) w0 f2 ++ yW cI b ψ2 ++ wL l0 mc e0 g) [0, 1, 2, 3, 4, 5, 6, 7, 8, 9, 10, 11, 12] (by decide) rfl
                  refine W.widen (k := 1) (n := 6) (Nat.le_of_ble_eq_true rfl) (Nat.le_of_ble_eq_true rfl) ?_
                  refine vx_ret ?_
                  exact W.lret (v := ((d2 * (31)) + (watchF σ 0 (traitF σ (turnF σ) 1)).toInt64)) hx hb hr (fun T9 ht hW => ⟨⟨((d2 * (31)) + (watchF σ 0 (traitF σ (turnF σ) 1)).toInt64), (σ, f2, ψ2), rfl, ⟨rfl, by unfold digestF; rw [hsp2]; first | (rw [if_pos c_104]; rfl) | (rw [if_neg c_104]; rfl), rfl⟩, by rw [ht]; exact hP9, va_K.moved hW.alike hK, hD9⟩, hS.F ht⟩) hS.2.2 dX4_digest_135
                · refine lv_lload_n hx hb dX4_digest_107 rfl (lv_at hl 1 rfl) ?_
                  refine lv_goto (tgt := 135) hx hb dX4_digest_108 (by decide) ?_
                  have hP9 := hP.sub (ws' := wW h (a 0) t0 l0 m0 ++ sW cI a σ ++ mW cI m0 (b 0) w0 f2 ++ yW cI b ψ2 ++ wL l0 mc e0 g) [0, 1, 2, 3, 4, 5, 6, 7, 8, 9, 10, 11, 12] rfl
                  have hD9 := hD.sub (ws' := wW h (a 0) t0 l0 m0 ++ sW cI a σ ++ mW cI m0 (b 0) w0 f2 ++ yW cI b ψ2 ++ wL l0 mc e0 g) [0, 1, 2, 3, 4, 5, 6, 7, 8, 9, 10, 11, 12] (by decide) rfl
                  refine W.widen (k := 1) (n := 6) (Nat.le_of_ble_eq_true rfl) (Nat.le_of_ble_eq_true rfl) ?_
                  refine vx_ret ?_
                  exact W.lret (v := d2) hx hb hr (fun T9 ht hW => ⟨⟨d2, (σ, f2, ψ2), rfl, ⟨rfl, by unfold digestF; rw [hsp2]; first | (rw [if_pos c_104]; rfl) | (rw [if_neg c_104]; rfl), rfl⟩, by rw [ht]; exact hP9, va_K.moved hW.alike hK, hD9⟩, hS.F ht⟩) hS.2.2 dX4_digest_135
              · refine lv_aload_n hx hb dX4_digest_70 rfl (lv_at hl 2 rfl) ?_
                refine va_get (D := D) (ci := 4) (v := .ref (a 0)) (C := RX4) (T := TX4) (N := 4) hx hb hts (by decide +kernel) hown hK hP 0 rfl rfl 0 (by decide) (hts (.fieldLink RX4 12 "Warren" "state" "LWarren$State;") (by decide +kernel)) (fun _ h9 => h9) rfl dX4_digest_71 ?_
                refine lv_iload_n hx hb dX4_digest_74 rfl (lv_at hl 0 rfl) ?_
                refine vp_callSi (va_Run.run (va_runV (As := [.int (nI k2)]) (rest := []) ⟨hx, hb, hml, hown, hts⟩ (c_X2_isBeing l D cI a σ (nI k2)) (cwV 1 hts gX4_digest_X2_isBeing rfl rfl rfl (by decide +kernel) ⟨Nat.le_of_ble_eq_true rfl, Nat.le_of_ble_eq_true rfl⟩) ⟨preR_blind, va_recv hK hP (ci := 2) (q0 := 1) rfl rfl, preR_of (hP.sub (ws' := sW cI a σ) [1, 2, 3, 4, 5, 6] rfl) hK hE [.ref (a 0), .int (nI k2)]⟩ rfl rfl hl.1 rfl (lv_room (Nat.le_of_ble_eq_true rfl)) dX4_digest_75 ⟨Nat.zero_le _, Nat.zero_le _⟩)) (fun r hr9 => ?_)
                subst hr9
                refine w_bz (tgt := 94) hx hb dX4_digest_78 (by decide) (fun c_78 => ?_) (fun c_78 => absurd c_78 ((being_ge (by omega) (by omega))))
                refine lv_aload_n hx hb dX4_digest_94 rfl (lv_at hl 2 rfl) ?_
                refine va_get (D := D) (ci := 4) (v := .ref (a 0)) (C := RX4) (T := TX4) (N := 4) hx hb hts (by decide +kernel) hown hK hP 0 rfl rfl 0 (by decide) (hts (.fieldLink RX4 12 "Warren" "state" "LWarren$State;") (by decide +kernel)) (fun _ h9 => h9) rfl dX4_digest_95 ?_
                refine vp_callSi (va_Run.run (va_runV (As := []) (rest := []) ⟨hx, hb, hml, hown, hts⟩ (c_X2_whoseTurn l D cI a σ  hn) (cwV 0 hts gX4_digest_X2_whoseTurn rfl rfl rfl (by decide +kernel) ⟨Nat.le_of_ble_eq_true rfl, Nat.le_of_ble_eq_true rfl⟩) ⟨preR_blind, va_recv hK hP (ci := 2) (q0 := 1) rfl rfl, preR_of (hP.sub (ws' := sW cI a σ) [1, 2, 3, 4, 5, 6] rfl) hK hE [.ref (a 0)]⟩ rfl rfl hl.1 rfl (lv_room (Nat.le_of_ble_eq_true rfl)) dX4_digest_98 ⟨Nat.zero_le _, Nat.zero_le _⟩)) (fun r hr9 => ?_)
                subst hr9
                refine lv_istore_n (lv' := [(3, .int (turnF σ)), (1, .long d2), (0, .ref h)]) hx hb dX4_digest_101 rfl hl (by decide) rfl (fun ls hl => ?_)
                refine lv_iload_n hx hb dX4_digest_102 rfl (lv_at hl 0 rfl) ?_
                refine lv_iconst (v := (-1)) hx hb dX4_digest_103 (by decide) ?_
                refine lv_icmp_ne (tgt := 111) hx hb dX4_digest_104 (by decide) (fun c_104 => ?_) (fun c_104 => ?_)
                · refine lv_lload_n hx hb dX4_digest_111 rfl (lv_at hl 1 rfl) ?_
                  refine lv_ldc2 hx hb hown (hts (.constantLong RX4 225 (31)) (by decide +kernel)) dX4_digest_112 ?_
                  refine lv_lmul hx hb dX4_digest_115 ?_
                  refine lv_aload_n hx hb dX4_digest_116 rfl (lv_at hl 2 rfl) ?_
                  refine va_get (D := D) (ci := 4) (v := .ref (a 0)) (C := RX4) (T := TX4) (N := 4) hx hb hts (by decide +kernel) hown hK hP 0 rfl rfl 0 (by decide) (hts (.fieldLink RX4 12 "Warren" "state" "LWarren$State;") (by decide +kernel)) (fun _ h9 => h9) rfl dX4_digest_117 ?_
                  refine lv_iconst (v := 0) hx hb dX4_digest_120 (by decide) ?_
                  refine lv_aload_n hx hb dX4_digest_121 rfl (lv_at hl 2 rfl) ?_
                  refine va_get (D := D) (ci := 4) (v := .ref (a 0)) (C := RX4) (T := TX4) (N := 4) hx hb hts (by decide +kernel) hown hK hP 0 rfl rfl 0 (by decide) (hts (.fieldLink RX4 12 "Warren" "state" "LWarren$State;") (by decide +kernel)) (fun _ h9 => h9) rfl dX4_digest_122 ?_
                  refine lv_iload_n hx hb dX4_digest_125 rfl (lv_at hl 0 rfl) ?_
                  refine lv_iconst (v := 1) hx hb dX4_digest_126 (by decide) ?_
                  refine vp_callSi (va_Run.run (va_runV (As := [.int (turnF σ), .int 1]) (rest := [.int 0, .ref (a 0), .long (d2 * (31))]) ⟨hx, hb, hml, hown, hts⟩ (c_X2_trait l D cI a σ (turnF σ) 1) (cwV 2 hts gX4_digest_X2_trait rfl rfl rfl (by decide +kernel) ⟨Nat.le_of_ble_eq_true rfl, Nat.le_of_ble_eq_true rfl⟩) ⟨preR_blind, va_recv hK hP (ci := 2) (q0 := 1) rfl rfl, preR_of (hP.sub (ws' := sW cI a σ) [1, 2, 3, 4, 5, 6] rfl) hK hE [.ref (a 0), .int (turnF σ), .int 1]⟩ rfl rfl hl.1 rfl (lv_room (Nat.le_of_ble_eq_true rfl)) dX4_digest_127 ⟨Nat.zero_le _, Nat.zero_le _⟩)) (fun r hr9 => ?_)
                  subst hr9
                  refine vp_callSi (va_Run.run (va_runV (As := [.int 0, .int (traitF σ (turnF σ) 1)]) (rest := [.long (d2 * (31))]) ⟨hx, hb, hml, hown, hts⟩ (c_X2_watchersOf l D cI a σ 0 (traitF σ (turnF σ) 1) hn) (cwV 2 hts gX4_digest_X2_watchersOf rfl rfl rfl (by decide +kernel) ⟨Nat.le_of_ble_eq_true rfl, Nat.le_of_ble_eq_true rfl⟩) ⟨preR_blind, va_recv hK hP (ci := 2) (q0 := 1) rfl rfl, preR_of (hP.sub (ws' := sW cI a σ) [1, 2, 3, 4, 5, 6] rfl) hK hE [.ref (a 0), .int 0, .int (traitF σ (turnF σ) 1)]⟩ rfl rfl hl.1 rfl (lv_room (Nat.le_of_ble_eq_true rfl)) dX4_digest_130 ⟨Nat.zero_le _, Nat.zero_le _⟩)) (fun r hr9 => ?_)
                  subst hr9
                  refine lv_i2l (v := (watchF σ 0 (traitF σ (turnF σ) 1)).toInt64) hx hb dX4_digest_133 rfl ?_
                  refine lv_ladd hx hb dX4_digest_134 ?_
                  have hP9 := hP.sub (ws' := wW h (a 0) t0 l0 m0 ++ sW cI a σ ++ mW cI m0 (b 0) w0 f2 ++ yW cI b ψ2 ++ wL l0 mc e0 g) [0, 1, 2, 3, 4, 5, 6, 7, 8, 9, 10, 11, 12] rfl
                  have hD9 := hD.sub (ws' := wW h (a 0) t0 l0 m0 ++ sW cI a σ ++ mW cI m0 (b 0) w0 f2 ++ yW cI b ψ2 ++ wL l0 mc e0 g) [0, 1, 2, 3, 4, 5, 6, 7, 8, 9, 10, 11, 12] (by decide) rfl
                  refine W.widen (k := 1) (n := 6) (Nat.le_of_ble_eq_true rfl) (Nat.le_of_ble_eq_true rfl) ?_
                  refine vx_ret ?_
                  exact W.lret (v := ((d2 * (31)) + (watchF σ 0 (traitF σ (turnF σ) 1)).toInt64)) hx hb hr (fun T9 ht hW => ⟨⟨((d2 * (31)) + (watchF σ 0 (traitF σ (turnF σ) 1)).toInt64), (σ, f2, ψ2), rfl, ⟨rfl, by unfold digestF; rw [hsp2]; first | (rw [if_pos c_104]; rfl) | (rw [if_neg c_104]; rfl), rfl⟩, by rw [ht]; exact hP9, va_K.moved hW.alike hK, hD9⟩, hS.F ht⟩) hS.2.2 dX4_digest_135
                · refine lv_lload_n hx hb dX4_digest_107 rfl (lv_at hl 1 rfl) ?_
                  refine lv_goto (tgt := 135) hx hb dX4_digest_108 (by decide) ?_
                  have hP9 := hP.sub (ws' := wW h (a 0) t0 l0 m0 ++ sW cI a σ ++ mW cI m0 (b 0) w0 f2 ++ yW cI b ψ2 ++ wL l0 mc e0 g) [0, 1, 2, 3, 4, 5, 6, 7, 8, 9, 10, 11, 12] rfl
                  have hD9 := hD.sub (ws' := wW h (a 0) t0 l0 m0 ++ sW cI a σ ++ mW cI m0 (b 0) w0 f2 ++ yW cI b ψ2 ++ wL l0 mc e0 g) [0, 1, 2, 3, 4, 5, 6, 7, 8, 9, 10, 11, 12] (by decide) rfl
                  refine W.widen (k := 1) (n := 6) (Nat.le_of_ble_eq_true rfl) (Nat.le_of_ble_eq_true rfl) ?_
                  refine vx_ret ?_
                  exact W.lret (v := d2) hx hb hr (fun T9 ht hW => ⟨⟨d2, (σ, f2, ψ2), rfl, ⟨rfl, by unfold digestF; rw [hsp2]; first | (rw [if_pos c_104]; rfl) | (rw [if_neg c_104]; rfl), rfl⟩, by rw [ht]; exact hP9, va_K.moved hW.alike hK, hD9⟩, hS.F ht⟩) hS.2.2 dX4_digest_135
            | succ n2 ih64 =>
              intro k2 d2 f2 ψ2 hk2 hsp2 H locs ls hl hP hD hS
              refine lv_iload_n hx hb dX4_digest_64 rfl (lv_at hl 0 rfl) ?_
              refine lv_bipush (v := 10) hx hb dX4_digest_65 (by decide) ?_
              refine lv_icmp_ge (tgt := 94) hx hb dX4_digest_67 (by decide) (fun c_67 => absurd c_67 (nI_ge (a := k2) (b := 10) (by omega) (by omega))) (fun c_67 => ?_)
              refine lv_aload_n hx hb dX4_digest_70 rfl (lv_at hl 2 rfl) ?_
              refine va_get (D := D) (ci := 4) (v := .ref (a 0)) (C := RX4) (T := TX4) (N := 4) hx hb hts (by decide +kernel) hown hK hP 0 rfl rfl 0 (by decide) (hts (.fieldLink RX4 12 "Warren" "state" "LWarren$State;") (by decide +kernel)) (fun _ h9 => h9) rfl dX4_digest_71 ?_
              refine lv_iload_n hx hb dX4_digest_74 rfl (lv_at hl 0 rfl) ?_
              refine vp_callSi (va_Run.run (va_runV (As := [.int (nI k2)]) (rest := []) ⟨hx, hb, hml, hown, hts⟩ (c_X2_isBeing l D cI a σ (nI k2)) (cwV 1 hts gX4_digest_X2_isBeing rfl rfl rfl (by decide +kernel) ⟨Nat.le_of_ble_eq_true rfl, Nat.le_of_ble_eq_true rfl⟩) ⟨preR_blind, va_recv hK hP (ci := 2) (q0 := 1) rfl rfl, preR_of (hP.sub (ws' := sW cI a σ) [1, 2, 3, 4, 5, 6] rfl) hK hE [.ref (a 0), .int (nI k2)]⟩ rfl rfl hl.1 rfl (lv_room (Nat.le_of_ble_eq_true rfl)) dX4_digest_75 ⟨Nat.zero_le _, Nat.zero_le _⟩)) (fun r hr9 => ?_)
              subst hr9
              refine w_bz (tgt := 94) hx hb dX4_digest_78 (by decide) (fun c_78 => absurd c_78 ((being_lt (by omega) (by omega)))) (fun c_78 => ?_)
              refine lv_aload_n hx hb dX4_digest_81 rfl (lv_at hl 2 rfl) ?_
              refine lv_lload_n hx hb dX4_digest_82 rfl (lv_at hl 1 rfl) ?_
              refine lv_iload_n hx hb dX4_digest_83 rfl (lv_at hl 0 rfl) ?_
              have hFc := va_free (wc := wW h (a 0) t0 l0 m0 ++ sW cI a σ ++ mW cI m0 (b 0) w0 f2 ++ yW cI b ψ2) hD hS hA [0, 1, 2, 3, 4, 5, 6, 7, 8, 9, 10, 11] rfl
              refine va_calll (va_runV (As := [.long d2, .int (nI k2)]) (rest := []) ⟨hx, hb, hml, hown, hts⟩ (c_X4_digestOf l D cI _ h t0 l0 m0 w0 a b σ f2 ψ2 d2 (nI k2) t hn) (cwV 2 hts gX4_digest_X4_digestOf rfl rfl rfl (by decide +kernel) ⟨Nat.le_of_ble_eq_true rfl, Nat.le_of_ble_eq_true rfl⟩) ⟨preSX_blind, va_recv hK hP (ci := 4) (q0 := 0) rfl rfl, preSX_of (hP.sub (ws' := wW h (a 0) t0 l0 m0 ++ sW cI a σ ++ mW cI m0 (b 0) w0 f2 ++ yW cI b ψ2) [0, 1, 2, 3, 4, 5, 6, 7, 8, 9, 10, 11] rfl) hK hE (hD.sub (ws' := wW h (a 0) t0 l0 m0 ++ sW cI a σ ++ mW cI m0 (b 0) w0 f2 ++ yW cI b ψ2) [0, 1, 2, 3, 4, 5, 6, 7, 8, 9, 10, 11] (by decide) rfl) hSX hS hFc [.ref h, .long d2, .int (nI k2)]⟩ rfl rfl hl.1 rfl (lv_room (Nat.le_of_ble_eq_true rfl)) dX4_digest_84 ⟨Nat.le_of_ble_eq_true rfl, Nat.le_of_ble_eq_true rfl⟩) hS (fun q _ h => hFc q h) hFc (fun r u t9 H1 locs ht hvm hw hB hz1 hk1 hS => ?_)
              obtain ⟨hP1, hK1, hD1⟩ := hB
              rw [ht] at hP1
              obtain ⟨s84, f84, φ84⟩ := u
              dsimp only at hw hP1 hD1
              obtain ⟨h8, h9⟩ := hw
              rw [h8]
              rw [h9] at hP1 hD1
              obtain ⟨hP, hD⟩ := va_join (wr := wL l0 mc e0 g) (w1 := wW h (a 0) t0 l0 m0 ++ sW cI a σ ++ mW cI m0 (b 0) w0 f84 ++ yW cI b φ84) hP hD [0, 1, 2, 3, 4, 5, 6, 7, 8, 9, 10, 11] [12] rfl rfl (by decide) (by decide) hk1 hFc hP1 hD1
              generalize H1 = H at hP hS ⊢
              have hP : va_P D vwCl (wL l0 mc e0 g ++ wW h (a 0) t0 l0 m0 ++ sW cI a σ ++ mW cI m0 (b 0) w0 f84 ++ yW cI b φ84) H := hP
              have hD : va_D A (wL l0 mc e0 g ++ wW h (a 0) t0 l0 m0 ++ sW cI a σ ++ mW cI m0 (b 0) w0 f84 ++ yW cI b φ84) := hD
              refine lv_lstore_n (lv' := [(1, .long (dgOne σ d2 (nI k2))), (3, .int (nI k2)), (0, .ref h)]) hx hb dX4_digest_87 rfl hl (by decide) rfl (fun ls hl => ?_)
              have hP : va_P D vwCl (wW h (a 0) t0 l0 m0 ++ sW cI a σ ++ mW cI m0 (b 0) w0 f84 ++ yW cI b φ84 ++ wL l0 mc e0 g) H := hP.sub (ws' := wW h (a 0) t0 l0 m0 ++ sW cI a σ ++ mW cI m0 (b 0) w0 f84 ++ yW cI b φ84 ++ wL l0 mc e0 g) [1, 2, 3, 4, 5, 6, 7, 8, 9, 10, 11, 12, 0] rfl
              have hD : va_D A (wW h (a 0) t0 l0 m0 ++ sW cI a σ ++ mW cI m0 (b 0) w0 f84 ++ yW cI b φ84 ++ wL l0 mc e0 g) := hD.sub (ws' := wW h (a 0) t0 l0 m0 ++ sW cI a σ ++ mW cI m0 (b 0) w0 f84 ++ yW cI b φ84 ++ wL l0 mc e0 g) [1, 2, 3, 4, 5, 6, 7, 8, 9, 10, 11, 12, 0] (by decide) rfl
              refine lv_iinc (v := (nI (k2 + 1))) (lv' := [(3, .int (nI (k2 + 1))), (1, .long (dgOne σ d2 (nI k2))), (0, .ref h)]) hx hb dX4_digest_88 hl (k := 1) rfl (nI_1 k2) (by decide) rfl (fun ls hl => ?_)
              refine lv_goto (tgt := 64) hx hb dX4_digest_91 (by decide) ?_
              exact ih64 (k2 + 1) (dgOne σ d2 (nI k2)) f84 φ84 (by omega) (by rw [hsp2]; rfl) _ _ ls (lv_sub hl [0, 1, 2] rfl) hP hD hS
          exact L64 (s_n σ) 0 d1 f ψ (by omega) (by unfold dgBs; rw [hsp1]; rfl) _ _ ls (lv_sub hl [0, 1, 2] rfl) hP hD hS
        | succ n1 ih33 =>
          intro k1 d1 hk1 hsp1 H locs ls hl hP hD hS
          refine lv_iload_n hx hb dX4_digest_33 rfl (lv_at hl 0 rfl) ?_
          refine lv_sipush (v := 160) hx hb dX4_digest_34 (by decide) ?_
          refine lv_icmp_ge (tgt := 62) hx hb dX4_digest_37 (by decide) (fun c_37 => absurd c_37 (nI_ge (b := 160) (by omega) (by omega))) (fun c_37 => ?_)
          refine lv_lload_n hx hb dX4_digest_40 rfl (lv_at hl 1 rfl) ?_
          refine lv_ldc2 hx hb hown (hts (.constantLong RX4 225 (31)) (by decide +kernel)) dX4_digest_41 ?_
          refine lv_lmul hx hb dX4_digest_44 ?_
          refine lv_aload_n hx hb dX4_digest_45 rfl (lv_at hl 2 rfl) ?_
          refine va_get (D := D) (ci := 4) (v := .ref (a 0)) (C := RX4) (T := TX4) (N := 4) hx hb hts (by decide +kernel) hown hK hP 0 rfl rfl 0 (by decide) (hts (.fieldLink RX4 12 "Warren" "state" "LWarren$State;") (by decide +kernel)) (fun _ h9 => h9) rfl dX4_digest_46 ?_
          refine lv_iload_n hx hb dX4_digest_49 rfl (lv_at hl 0 rfl) ?_
          refine vp_callSi (va_Run.run (va_runV (As := [.int (nI k1)]) (rest := [.long (d1 * (31))]) ⟨hx, hb, hml, hown, hts⟩ (c_X2_kindAt l D cI a σ (nI k1)) (cwV 1 hts gX4_digest_X2_kindAt rfl rfl rfl (by decide +kernel) ⟨Nat.le_of_ble_eq_true rfl, Nat.le_of_ble_eq_true rfl⟩) ⟨preR_blind, va_recv hK hP (ci := 2) (q0 := 1) rfl rfl, preR_of (hP.sub (ws' := sW cI a σ) [1, 2, 3, 4, 5, 6] rfl) hK hE [.ref (a 0), .int (nI k1)]⟩ rfl rfl hl.1 rfl (lv_room (Nat.le_of_ble_eq_true rfl)) dX4_digest_50 ⟨Nat.zero_le _, Nat.zero_le _⟩)) (fun r hr9 => ?_)
          subst hr9
          refine lv_i2l (v := (kindF σ (nI k1)).toInt64) hx hb dX4_digest_53 rfl ?_
          refine lv_ladd hx hb dX4_digest_54 ?_
          refine lv_lstore_n (lv' := [(1, .long ((d1 * (31)) + (kindF σ (nI k1)).toInt64)), (3, .int (nI k1)), (0, .ref h)]) hx hb dX4_digest_55 rfl hl (by decide) rfl (fun ls hl => ?_)
          refine lv_iinc (v := (nI (k1 + 1))) (lv' := [(3, .int (nI (k1 + 1))), (1, .long ((d1 * (31)) + (kindF σ (nI k1)).toInt64)), (0, .ref h)]) hx hb dX4_digest_56 hl (k := 1) rfl (nI_1 k1) (by decide) rfl (fun ls hl => ?_)
          refine lv_goto (tgt := 33) hx hb dX4_digest_59 (by decide) ?_
          exact ih33 (k1 + 1) ((d1 * (31)) + (kindF σ (nI k1)).toInt64) (by omega) (by rw [hsp1]; rfl) _ _ ls (lv_sub hl [0, 1, 2] rfl) hP hD hS
      exact L33 160 0 d (by omega) (by rw [hsp]; rfl) _ _ ls (lv_sub hl [0, 1, 2] rfl) hP hD hS
    | succ n ih6 =>
      intro k d hk hsp H locs ls hl hP hD hS
      refine lv_iload_n hx hb dX4_digest_6 rfl (lv_at hl 0 rfl) ?_
      refine lv_bipush (v := 8) hx hb dX4_digest_7 (by decide) ?_
      refine lv_icmp_gt (tgt := 31) hx hb dX4_digest_9 (by decide) (fun c_9 => absurd c_9 ((nI_nlt (b := k) (a := 8) (by omega) (by omega)))) (fun c_9 => ?_)
      refine lv_lload_n hx hb dX4_digest_12 rfl (lv_at hl 1 rfl) ?_
      refine lv_ldc2 hx hb hown (hts (.constantLong RX4 225 (31)) (by decide +kernel)) dX4_digest_13 ?_
      refine lv_lmul hx hb dX4_digest_16 ?_
      refine lv_aload_n hx hb dX4_digest_17 rfl (lv_at hl 2 rfl) ?_
      refine lv_iload_n hx hb dX4_digest_18 rfl (lv_at hl 0 rfl) ?_
      refine vp_callSi (va_Run.run (va_runV (As := [.int (nI k)]) (rest := [.long (d * (31))]) ⟨hx, hb, hml, hown, hts⟩ (c_X4_countOf l D cI h t0 l0 m0 a σ mc e0 g k hn (by omega)) (cwV 1 hts gX4_digest_X4_countOf rfl rfl rfl (by decide +kernel) ⟨Nat.le_of_ble_eq_true rfl, Nat.le_of_ble_eq_true rfl⟩) ⟨preF_blind, va_recv hK hP (ci := 4) (q0 := 0) rfl rfl, preF_of (hP.sub (ws' := wW h (a 0) t0 l0 m0 ++ sW cI a σ ++ wL l0 mc e0 g) [0, 1, 2, 3, 4, 5, 6, 12] rfl) hK hE hXV.2.2.2.2.2.2.2.2 [.ref h, .int (nI k)]⟩ rfl rfl hl.1 rfl (lv_room (Nat.le_of_ble_eq_true rfl)) dX4_digest_19 ⟨Nat.zero_le _, Nat.zero_le _⟩)) (fun r hr9 => ?_)
      subst hr9
      refine lv_i2l (v := (countF σ g (nI k)).toInt64) hx hb dX4_digest_22 rfl ?_
      refine lv_ladd hx hb dX4_digest_23 ?_
      refine lv_lstore_n (lv' := [(1, .long ((d * (31)) + (countF σ g (nI k)).toInt64)), (3, .int (nI k)), (0, .ref h)]) hx hb dX4_digest_24 rfl hl (by decide) rfl (fun ls hl => ?_)
      refine lv_iinc (v := (nI (k + 1))) (lv' := [(3, .int (nI (k + 1))), (1, .long ((d * (31)) + (countF σ g (nI k)).toInt64)), (0, .ref h)]) hx hb dX4_digest_25 hl (k := 1) rfl (nI_1 k) (by decide) rfl (fun ls hl => ?_)
      refine lv_goto (tgt := 6) hx hb dX4_digest_28 (by decide) ?_
      exact ih6 (k + 1) ((d * (31)) + (countF σ g (nI k)).toInt64) (by omega) (by rw [hsp]; rfl) _ _ ls (lv_sub hl [0, 1, 2] rfl) hP hD hS
  exact L6 9 0 58090 (by omega) rfl _ _ ls (lv_sub hl [0, 1, 2] rfl) hP hD hS
