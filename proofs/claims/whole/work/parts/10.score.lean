set_option maxHeartbeats 4000000 in
set_option maxRecDepth 100000 in
/-- a note of a bar that there is -/
theorem c_X1_tone (l : Launch) (g : gG) (q a b : Nat) (n : Int) (u lo : Nat → Int) (hu : Nt u) (hlo : Nt lo) (v : Int) (hv : zr v) (k : Nat) (hk : k < 12) (z : Int) (hz : z = (k : Int)) (x : Int) (hx0 : v = 0 → x = u k) (hx1 : ¬ v = 0 → x = lo k) : RO l yX1_tone wsX1_tone ({ frames := 0, cells := 0, slots := 0, locals := 0 }) g [.ref q, .int (zi (v)), .int (zi (z))] (ScP g q a b n u lo) (x) := by
  refine RO.ofW (cc := cX1_tone) (maxL := 4) (ret := (some .int)) (by decide) rfl (Nat.le_of_ble_eq_true rfl) ?_
  intro p e s m below meth c ls hx hb hr hml hown hts hlk hP hK hl
  have hown : s.vm.findClass RX1 = some m.cls := hown
  have hl : lv_has ls 4 [(0, .ref q), (1, .int (zi (v))), (2, .int (zi (z)))] := hl
  have hiX1 : ∀ w ∈ u_ws RX1 TX1 3, w ∈ wsX1_tone := by decide +kernel
  refine lv_iload_n hx hb dX1_tone_0 rfl (lv_at hl 1 rfl) ?_
  refine z_if_ne (tgt := 11) hx hb dX1_tone_1 (by decide) (by omega) (fun h1 => ?_) (fun h1 => ?_)
  ·
    refine lv_aload_n hx hb dX1_tone_11 rfl (lv_at hl 0 rfl) ?_
    refine z_get (C := RX1) (T := TX1) (N := 3) hx hb hts hiX1 hown hK hP.1 rfl 2 (by decide) (hts (.fieldLink RX1 19 "HarmoniumDesk$Score" "lower" "[I") (by decide +kernel)) rfl rfl dX1_tone_12 ?_
    refine lv_astore_n (lv' := [(3, .ref b), (0, .ref q), (1, .int (zi (v))), (2, .int (zi (z)))]) hx hb dX1_tone_15 rfl hl (by decide) rfl (fun ls hl => ?_)
    refine lv_iload_n hx hb dX1_tone_16 rfl (lv_at hl 3 rfl) ?_
    refine z_if_lt (tgt := 32) hx hb dX1_tone_17 (by decide) (by omega) (fun h17 => ?_) (fun h17 => ?_)
    · exfalso; omega
    ·
      refine lv_iload_n hx hb dX1_tone_20 rfl (lv_at hl 3 rfl) ?_
      refine lv_aload_n hx hb dX1_tone_21 rfl (lv_at hl 0 rfl) ?_
      refine z_alen hx hb hK hP.2.2 0 rfl dX1_tone_22 ?_
      refine z_icmp_ge (tgt := 32) hx hb dX1_tone_23 (by decide) (by omega) (by omega) (fun h23 => ?_) (fun h23 => ?_)
      · exfalso; omega
      ·
        refine lv_aload_n hx hb dX1_tone_26 rfl (lv_at hl 0 rfl) ?_
        refine lv_iload_n hx hb dX1_tone_27 rfl (lv_at hl 3 rfl) ?_
        refine z_iald hx hb hK hP.2.2 (k) (by omega) (by omega) (by decide) dX1_tone_28 ?_
        refine lv_goto (tgt := 33) hx hb dX1_tone_29 (by decide) ?_
        exact z_iret hx hb hr hlk dX1_tone_33 ((hx1 (by omega)).symm)
  ·
    refine lv_aload_n hx hb dX1_tone_4 rfl (lv_at hl 0 rfl) ?_
    refine z_get (C := RX1) (T := TX1) (N := 3) hx hb hts hiX1 hown hK hP.1 rfl 1 (by decide) (hts (.fieldLink RX1 15 "HarmoniumDesk$Score" "upper" "[I") (by decide +kernel)) rfl rfl dX1_tone_5 ?_
    refine lv_goto (tgt := 15) hx hb dX1_tone_8 (by decide) ?_
    refine lv_astore_n (lv' := [(3, .ref a), (0, .ref q), (1, .int (zi (v))), (2, .int (zi (z)))]) hx hb dX1_tone_15 rfl hl (by decide) rfl (fun ls hl => ?_)
    refine lv_iload_n hx hb dX1_tone_16 rfl (lv_at hl 3 rfl) ?_
    refine z_if_lt (tgt := 32) hx hb dX1_tone_17 (by decide) (by omega) (fun h17 => ?_) (fun h17 => ?_)
    · exfalso; omega
    ·
      refine lv_iload_n hx hb dX1_tone_20 rfl (lv_at hl 3 rfl) ?_
      refine lv_aload_n hx hb dX1_tone_21 rfl (lv_at hl 0 rfl) ?_
      refine z_alen hx hb hK hP.2.1 0 rfl dX1_tone_22 ?_
      refine z_icmp_ge (tgt := 32) hx hb dX1_tone_23 (by decide) (by omega) (by omega) (fun h23 => ?_) (fun h23 => ?_)
      · exfalso; omega
      ·
        refine lv_aload_n hx hb dX1_tone_26 rfl (lv_at hl 0 rfl) ?_
        refine lv_iload_n hx hb dX1_tone_27 rfl (lv_at hl 3 rfl) ?_
        refine z_iald hx hb hK hP.2.1 (k) (by omega) (by omega) (by decide) dX1_tone_28 ?_
        refine lv_goto (tgt := 33) hx hb dX1_tone_29 (by decide) ?_
        exact z_iret hx hb hr hlk dX1_tone_33 ((hx0 (by omega)).symm)

set_option maxHeartbeats 4000000 in
set_option maxRecDepth 100000 in
/-- the interval of a bar -/
theorem c_X1_interval (l : Launch) (g : gG) (q a b : Nat) (n : Int) (u lo : Nat → Int) (hu : Nt u) (hlo : Nt lo) (k : Nat) (hk : k < 12) (z : Int) (hz : z = (k : Int)) : RO l yX1_interval wsX1_interval ({ frames := 1, cells := 0, slots := 0, locals := 23 }) g [.ref q, .int (zi (z))] (ScP g q a b n u lo) (iv u lo k) := by
  refine RO.ofW (cc := cX1_interval) (maxL := 2) (ret := (some .int)) (by decide) rfl (Nat.le_of_ble_eq_true rfl) ?_
  intro p e s m below meth c ls hx hb hr hml hown hts hlk hP hK hl
  have hown : s.vm.findClass RX1 = some m.cls := hown
  have hl : lv_has ls 2 [(0, .ref q), (1, .int (zi (z)))] := hl
  have h1 := hu k
  have h2 := hlo k
  refine lv_aload_n hx hb dX1_interval_0 rfl (lv_at hl 0 rfl) ?_
  refine z_iconst hx hb dX1_interval_1 ?_
  refine lv_iload_n hx hb dX1_interval_2 rfl (lv_at hl 1 rfl) ?_
  refine ro_V (rest := []) (As := [.int (zi (0)), .int (zi (z))]) ⟨hx, hb, hml, hown, hts⟩ (c_X1_tone l g q a b n u lo hu hlo (0) (by omega) (k) (by omega) (z) (by omega) (u (k)) (fun _ => rfl) (fun h => absurd rfl h)) (cwV 2 hts gX1_interval_X1_tone rfl rfl rfl (by decide +kernel) ⟨Nat.le_of_ble_eq_true rfl, Nat.le_of_ble_eq_true rfl⟩) (z_recv hK hP.1 rfl) hP hK rfl hl.1 rfl (Nat.le_of_ble_eq_true rfl) dX1_interval_3 ⟨Nat.zero_le _, Nat.zero_le _⟩ ?_
  refine lv_aload_n hx hb dX1_interval_6 rfl (lv_at hl 0 rfl) ?_
  refine z_iconst hx hb dX1_interval_7 ?_
  refine lv_iload_n hx hb dX1_interval_8 rfl (lv_at hl 1 rfl) ?_
  refine ro_V (rest := [.int (zi (u (k)))]) (As := [.int (zi (1)), .int (zi (z))]) ⟨hx, hb, hml, hown, hts⟩ (c_X1_tone l g q a b n u lo hu hlo (1) (by omega) (k) (by omega) (z) (by omega) (lo (k)) (fun h => absurd h (by decide)) (fun _ => rfl)) (cwV 2 hts gX1_interval_X1_tone rfl rfl rfl (by decide +kernel) ⟨Nat.le_of_ble_eq_true rfl, Nat.le_of_ble_eq_true rfl⟩) (z_recv hK hP.1 rfl) hP hK rfl hl.1 rfl (Nat.le_of_ble_eq_true rfl) dX1_interval_9 ⟨Nat.zero_le _, Nat.zero_le _⟩ ?_
  refine z_isub hx hb dX1_interval_12 ?_
  refine z_abs (d := dz (u (k)) (lo (k))) hx hb (hml.trans hl.1.symm) hown (hts (.methodLink RX1 54 Lib.Math.abs.name) (by decide +kernel)) (hts (.static Lib.Math.abs.name) (by decide +kernel)) (hts (.initialized "java/lang/Math") (by decide +kernel)) (hts (.code Lib.Math.abs.name Lib.Math.abs.code 1 (some .int)) (by decide +kernel)) (Nat.le_of_ble_eq_true rfl) (Nat.le_of_ble_eq_true rfl) (Nat.zero_le _) (Nat.zero_le _) (by omega) (by (try unfold dz); omega) (by (try unfold dz); omega) dX1_interval_13 ?_
  have h3 := dz_r h1 h2
  refine z_bipush hx hb dX1_interval_16 (by decide) ?_
  refine z_irem hx hb (by omega) (by omega) (by omega) (by omega) dX1_interval_18 ?_
  exact z_iret hx hb hr hlk dX1_interval_19 (rfl)

set_option maxHeartbeats 4000000 in
set_option maxRecDepth 100000 in
theorem c_X1_isPerfect (l : Launch) (g : gG) (x : Int) (hr : zr x) : RO l yX1_isPerfect wsX1_isPerfect ({ frames := 0, cells := 0, slots := 0, locals := 0 }) g [.int (zi (x))] (fun _ => True) (pz (P7 x)) := by
  refine RO.ofW (cc := cX1_isPerfect) (maxL := 1) (ret := (some .boolean)) (by decide) rfl (Nat.le_of_ble_eq_true rfl) ?_
  intro p e s m below meth c ls hx hb hr hml hown hts hlk hP hK hl
  have hown : s.vm.findClass RX1 = some m.cls := hown
  have hl : lv_has ls 1 [(0, .int (zi (x)))] := hl
  refine lv_iload_n hx hb dX1_isPerfect_0 rfl (lv_at hl 0 rfl) ?_
  refine z_if_eq (tgt := 10) hx hb dX1_isPerfect_1 (by decide) (by omega) (fun h1 => ?_) (fun h1 => ?_)
  ·
    refine z_iconst hx hb dX1_isPerfect_10 ?_
    refine lv_goto (tgt := 15) hx hb dX1_isPerfect_11 (by decide) ?_
    exact z_zret hx hb hr hlk dX1_isPerfect_15 (by omega) ((pz_t (by simp only [P7]; omega)).symm)
  ·
    refine lv_iload_n hx hb dX1_isPerfect_4 rfl (lv_at hl 0 rfl) ?_
    refine z_bipush hx hb dX1_isPerfect_5 (by decide) ?_
    refine z_icmp_ne (tgt := 14) hx hb dX1_isPerfect_7 (by decide) (by omega) (by omega) (fun h7 => ?_) (fun h7 => ?_)
    ·
      refine z_iconst hx hb dX1_isPerfect_14 ?_
      exact z_zret hx hb hr hlk dX1_isPerfect_15 (by omega) ((pz_f (by simp only [P7]; omega)).symm)
    ·
      refine z_iconst hx hb dX1_isPerfect_10 ?_
      refine lv_goto (tgt := 15) hx hb dX1_isPerfect_11 (by decide) ?_
      exact z_zret hx hb hr hlk dX1_isPerfect_15 (by omega) ((pz_t (by simp only [P7]; omega)).symm)

set_option maxHeartbeats 4000000 in
set_option maxRecDepth 100000 in
/-- how far a voice steps to a bar -/
theorem c_X1_stepTo (l : Launch) (g : gG) (q a b : Nat) (n : Int) (u lo : Nat → Int) (hu : Nt u) (hlo : Nt lo) (v : Int) (hv : zr v) (w : Nat → Int) (hw0 : v = 0 → w = u) (hw1 : ¬ v = 0 → w = lo) (k : Nat) (h1k : 1 ≤ k) (hk : k < 12) (z : Int) (hz : z = (k : Int)) : RO l yX1_stepTo wsX1_stepTo ({ frames := 1, cells := 0, slots := 0, locals := 23 }) g [.ref q, .int (zi (v)), .int (zi (z))] (ScP g q a b n u lo) (dz (w k) (w (k - 1))) := by
  refine RO.ofW (cc := cX1_stepTo) (maxL := 3) (ret := (some .int)) (by decide) rfl (Nat.le_of_ble_eq_true rfl) ?_
  intro p e s m below meth c ls hx hb hr hml hown hts hlk hP hK hl
  have hown : s.vm.findClass RX1 = some m.cls := hown
  have hl : lv_has ls 3 [(0, .ref q), (1, .int (zi (v))), (2, .int (zi (z)))] := hl
  have hw : Nt w := if h : v = 0 then by rw [hw0 h]; exact hu else by rw [hw1 h]; exact hlo
  have h1 := hw k
  have h2 := hw (k - 1)
  refine lv_aload_n hx hb dX1_stepTo_0 rfl (lv_at hl 0 rfl) ?_
  refine lv_iload_n hx hb dX1_stepTo_1 rfl (lv_at hl 1 rfl) ?_
  refine lv_iload_n hx hb dX1_stepTo_2 rfl (lv_at hl 2 rfl) ?_
  refine ro_V (rest := []) (As := [.int (zi (v)), .int (zi (z))]) ⟨hx, hb, hml, hown, hts⟩ (c_X1_tone l g q a b n u lo hu hlo (v) (by omega) (k) (by omega) (z) (by omega) (w (k)) (fun h => by rw [hw0 h]) (fun h => by rw [hw1 h])) (cwV 2 hts gX1_stepTo_X1_tone rfl rfl rfl (by decide +kernel) ⟨Nat.le_of_ble_eq_true rfl, Nat.le_of_ble_eq_true rfl⟩) (z_recv hK hP.1 rfl) hP hK rfl hl.1 rfl (Nat.le_of_ble_eq_true rfl) dX1_stepTo_3 ⟨Nat.zero_le _, Nat.zero_le _⟩ ?_
  refine lv_aload_n hx hb dX1_stepTo_6 rfl (lv_at hl 0 rfl) ?_
  refine lv_iload_n hx hb dX1_stepTo_7 rfl (lv_at hl 1 rfl) ?_
  refine lv_iload_n hx hb dX1_stepTo_8 rfl (lv_at hl 2 rfl) ?_
  refine z_iconst hx hb dX1_stepTo_9 ?_
  refine z_isub hx hb dX1_stepTo_10 ?_
  refine ro_V (rest := [.int (zi (w (k)))]) (As := [.int (zi (v)), .int (zi ((z) - (1)))]) ⟨hx, hb, hml, hown, hts⟩ (c_X1_tone l g q a b n u lo hu hlo (v) (by omega) (k - 1) (by omega) ((z) - (1)) (by omega) (w (k - 1)) (fun h => by rw [hw0 h]) (fun h => by rw [hw1 h])) (cwV 2 hts gX1_stepTo_X1_tone rfl rfl rfl (by decide +kernel) ⟨Nat.le_of_ble_eq_true rfl, Nat.le_of_ble_eq_true rfl⟩) (z_recv hK hP.1 rfl) hP hK rfl hl.1 rfl (Nat.le_of_ble_eq_true rfl) dX1_stepTo_11 ⟨Nat.zero_le _, Nat.zero_le _⟩ ?_
  refine z_isub hx hb dX1_stepTo_14 ?_
  refine z_abs (d := dz (w (k)) (w (k - 1))) hx hb (hml.trans hl.1.symm) hown (hts (.methodLink RX1 54 Lib.Math.abs.name) (by decide +kernel)) (hts (.static Lib.Math.abs.name) (by decide +kernel)) (hts (.initialized "java/lang/Math") (by decide +kernel)) (hts (.code Lib.Math.abs.name Lib.Math.abs.code 1 (some .int)) (by decide +kernel)) (Nat.le_of_ble_eq_true rfl) (Nat.le_of_ble_eq_true rfl) (Nat.zero_le _) (Nat.zero_le _) (by omega) (by (try unfold dz); omega) (by (try unfold dz); omega) dX1_stepTo_15 ?_
  exact z_iret hx hb hr hlk dX1_stepTo_18 (rfl)

set_option maxHeartbeats 4000000 in
set_option maxRecDepth 100000 in
theorem c_X1_isDiscord (l : Launch) (g : gG) (q a b : Nat) (n : Int) (u lo : Nat → Int) (hu : Nt u) (hlo : Nt lo) (k : Nat) (hk : k < 12) (z : Int) (hz : z = (k : Int)) : RO l yX1_isDiscord wsX1_isDiscord ({ frames := 2, cells := 0, slots := 0, locals := 44 }) g [.ref q, .int (zi (z))] (ScP g q a b n u lo) (pz (D0 u lo k)) := by
  refine RO.ofW (cc := cX1_isDiscord) (maxL := 2) (ret := (some .boolean)) (by decide) rfl (Nat.le_of_ble_eq_true rfl) ?_
  intro p e s m below meth c ls hx hb hr hml hown hts hlk hP hK hl
  have hown : s.vm.findClass RX1 = some m.cls := hown
  have hl : lv_has ls 2 [(0, .ref q), (1, .int (zi (z)))] := hl
  refine lv_aload_n hx hb dX1_isDiscord_0 rfl (lv_at hl 0 rfl) ?_
  refine lv_iload_n hx hb dX1_isDiscord_1 rfl (lv_at hl 1 rfl) ?_
  refine ro_V (rest := []) (As := [.int (zi (z))]) ⟨hx, hb, hml, hown, hts⟩ (c_X1_interval l g q a b n u lo hu hlo (k) (by omega) (z) (by omega)) (cwV 1 hts gX1_isDiscord_X1_interval rfl rfl rfl (by decide +kernel) ⟨Nat.le_of_ble_eq_true rfl, Nat.le_of_ble_eq_true rfl⟩) (z_recv hK hP.1 rfl) hP hK rfl hl.1 rfl (Nat.le_of_ble_eq_true rfl) dX1_isDiscord_2 ⟨Nat.zero_le _, Nat.zero_le _⟩ ?_
  have hri := iv_r u lo k
  rcases (show iv u lo k = 0 ∨ iv u lo k = 1 ∨ iv u lo k = 2 ∨ iv u lo k = 3 ∨ iv u lo k = 4 ∨ iv u lo k = 5 ∨ iv u lo k = 6 ∨ iv u lo k = 7 ∨ iv u lo k = 8 ∨ iv u lo k = 9 ∨ iv u lo k = 10 ∨ iv u lo k = 11 by omega) with h5 | h5 | h5 | h5 | h5 | h5 | h5 | h5 | h5 | h5 | h5 | h5
  · refine z_top (b := 0) h5 ?_
    refine lv_tableOut (tgt := 66) hx hb dX1_isDiscord_5 (by decide +kernel) (by decide) ?_
    refine z_iconst hx hb dX1_isDiscord_66 ?_
    exact z_zret hx hb hr hlk dX1_isDiscord_67 (by omega) ((pz_f (by simp only [D0]; omega)).symm)
  · refine z_top (b := 1) h5 ?_
    refine lv_tableIn (off := 59) (tgt := 64) hx hb dX1_isDiscord_5 (by decide +kernel) (by decide +kernel) (by decide +kernel) (by decide) ?_
    refine z_iconst hx hb dX1_isDiscord_64 ?_
    exact z_zret hx hb hr hlk dX1_isDiscord_65 (by omega) ((pz_t (by simp only [D0]; omega)).symm)
  · refine z_top (b := 2) h5 ?_
    refine lv_tableIn (off := 59) (tgt := 64) hx hb dX1_isDiscord_5 (by decide +kernel) (by decide +kernel) (by decide +kernel) (by decide) ?_
    refine z_iconst hx hb dX1_isDiscord_64 ?_
    exact z_zret hx hb hr hlk dX1_isDiscord_65 (by omega) ((pz_t (by simp only [D0]; omega)).symm)
  · refine z_top (b := 3) h5 ?_
    refine lv_tableIn (off := 61) (tgt := 66) hx hb dX1_isDiscord_5 (by decide +kernel) (by decide +kernel) (by decide +kernel) (by decide) ?_
    refine z_iconst hx hb dX1_isDiscord_66 ?_
    exact z_zret hx hb hr hlk dX1_isDiscord_67 (by omega) ((pz_f (by simp only [D0]; omega)).symm)
  · refine z_top (b := 4) h5 ?_
    refine lv_tableIn (off := 61) (tgt := 66) hx hb dX1_isDiscord_5 (by decide +kernel) (by decide +kernel) (by decide +kernel) (by decide) ?_
    refine z_iconst hx hb dX1_isDiscord_66 ?_
    exact z_zret hx hb hr hlk dX1_isDiscord_67 (by omega) ((pz_f (by simp only [D0]; omega)).symm)
  · refine z_top (b := 5) h5 ?_
    refine lv_tableIn (off := 59) (tgt := 64) hx hb dX1_isDiscord_5 (by decide +kernel) (by decide +kernel) (by decide +kernel) (by decide) ?_
    refine z_iconst hx hb dX1_isDiscord_64 ?_
    exact z_zret hx hb hr hlk dX1_isDiscord_65 (by omega) ((pz_t (by simp only [D0]; omega)).symm)
  · refine z_top (b := 6) h5 ?_
    refine lv_tableIn (off := 59) (tgt := 64) hx hb dX1_isDiscord_5 (by decide +kernel) (by decide +kernel) (by decide +kernel) (by decide) ?_
    refine z_iconst hx hb dX1_isDiscord_64 ?_
    exact z_zret hx hb hr hlk dX1_isDiscord_65 (by omega) ((pz_t (by simp only [D0]; omega)).symm)
  · refine z_top (b := 7) h5 ?_
    refine lv_tableIn (off := 61) (tgt := 66) hx hb dX1_isDiscord_5 (by decide +kernel) (by decide +kernel) (by decide +kernel) (by decide) ?_
    refine z_iconst hx hb dX1_isDiscord_66 ?_
    exact z_zret hx hb hr hlk dX1_isDiscord_67 (by omega) ((pz_f (by simp only [D0]; omega)).symm)
  · refine z_top (b := 8) h5 ?_
    refine lv_tableIn (off := 61) (tgt := 66) hx hb dX1_isDiscord_5 (by decide +kernel) (by decide +kernel) (by decide +kernel) (by decide) ?_
    refine z_iconst hx hb dX1_isDiscord_66 ?_
    exact z_zret hx hb hr hlk dX1_isDiscord_67 (by omega) ((pz_f (by simp only [D0]; omega)).symm)
  · refine z_top (b := 9) h5 ?_
    refine lv_tableIn (off := 61) (tgt := 66) hx hb dX1_isDiscord_5 (by decide +kernel) (by decide +kernel) (by decide +kernel) (by decide) ?_
    refine z_iconst hx hb dX1_isDiscord_66 ?_
    exact z_zret hx hb hr hlk dX1_isDiscord_67 (by omega) ((pz_f (by simp only [D0]; omega)).symm)
  · refine z_top (b := 10) h5 ?_
    refine lv_tableIn (off := 59) (tgt := 64) hx hb dX1_isDiscord_5 (by decide +kernel) (by decide +kernel) (by decide +kernel) (by decide) ?_
    refine z_iconst hx hb dX1_isDiscord_64 ?_
    exact z_zret hx hb hr hlk dX1_isDiscord_65 (by omega) ((pz_t (by simp only [D0]; omega)).symm)
  · refine z_top (b := 11) h5 ?_
    refine lv_tableIn (off := 59) (tgt := 64) hx hb dX1_isDiscord_5 (by decide +kernel) (by decide +kernel) (by decide +kernel) (by decide) ?_
    refine z_iconst hx hb dX1_isDiscord_64 ?_
    exact z_zret hx hb hr hlk dX1_isDiscord_65 (by omega) ((pz_t (by simp only [D0]; omega)).symm)

set_option maxHeartbeats 4000000 in
set_option maxRecDepth 100000 in
theorem c_X1_isParallel (l : Launch) (g : gG) (q a b : Nat) (n : Int) (u lo : Nat → Int) (hu : Nt u) (hlo : Nt lo) (k : Nat) (hk : k < 12) (z : Int) (hz : z = (k : Int)) : RO l yX1_isParallel wsX1_isParallel ({ frames := 2, cells := 0, slots := 0, locals := 45 }) g [.ref q, .int (zi (z))] (ScP g q a b n u lo) (pz (D1 u lo k)) := by
  refine RO.ofW (cc := cX1_isParallel) (maxL := 2) (ret := (some .boolean)) (by decide) rfl (Nat.le_of_ble_eq_true rfl) ?_
  intro p e s m below meth c ls hx hb hr hml hown hts hlk hP hK hl
  have hown : s.vm.findClass RX1 = some m.cls := hown
  have hl : lv_has ls 2 [(0, .ref q), (1, .int (zi (z)))] := hl
  have e1 := hu k
  have e2 := hu (k - 1)
  have e3 := hlo k
  have e4 := hlo (k - 1)
  have r1 := dz_r e1 e2
  have r2 := dz_r e3 e4
  have r3 := iv_r u lo k
  have r4 := iv_r u lo (k - 1)
  have z1 := @dz_0 (u k) (u (k - 1))
  have z2 := @dz_0 (lo k) (lo (k - 1))
  refine lv_iload_n hx hb dX1_isParallel_0 rfl (lv_at hl 1 rfl) ?_
  refine z_iconst hx hb dX1_isParallel_1 ?_
  refine z_icmp_lt (tgt := 53) hx hb dX1_isParallel_2 (by decide) (by omega) (by omega) (fun h2 => ?_) (fun h2 => ?_)
  ·
    refine z_iconst hx hb dX1_isParallel_53 ?_
    exact z_zret hx hb hr hlk dX1_isParallel_54 (by omega) ((pz_f (by simp only [D1, P7]; omega)).symm)
  ·
    refine lv_aload_n hx hb dX1_isParallel_5 rfl (lv_at hl 0 rfl) ?_
    refine z_iconst hx hb dX1_isParallel_6 ?_
    refine lv_iload_n hx hb dX1_isParallel_7 rfl (lv_at hl 1 rfl) ?_
    refine ro_V (rest := []) (As := [.int (zi (0)), .int (zi (z))]) ⟨hx, hb, hml, hown, hts⟩ (c_X1_stepTo l g q a b n u lo hu hlo (0) (by omega) u (fun _ => rfl) (fun h => absurd rfl h) (k) (by omega) (by omega) (z) (by omega)) (cwV 2 hts gX1_isParallel_X1_stepTo rfl rfl rfl (by decide +kernel) ⟨Nat.le_of_ble_eq_true rfl, Nat.le_of_ble_eq_true rfl⟩) (z_recv hK hP.1 rfl) hP hK rfl hl.1 rfl (Nat.le_of_ble_eq_true rfl) dX1_isParallel_8 ⟨Nat.zero_le _, Nat.zero_le _⟩ ?_
    refine z_if_eq (tgt := 53) hx hb dX1_isParallel_11 (by decide) (by omega) (fun h11 => ?_) (fun h11 => ?_)
    ·
      refine z_iconst hx hb dX1_isParallel_53 ?_
      exact z_zret hx hb hr hlk dX1_isParallel_54 (by omega) ((pz_f (by simp only [D1, P7]; omega)).symm)
    ·
      refine lv_aload_n hx hb dX1_isParallel_14 rfl (lv_at hl 0 rfl) ?_
      refine z_iconst hx hb dX1_isParallel_15 ?_
      refine lv_iload_n hx hb dX1_isParallel_16 rfl (lv_at hl 1 rfl) ?_
      refine ro_V (rest := []) (As := [.int (zi (1)), .int (zi (z))]) ⟨hx, hb, hml, hown, hts⟩ (c_X1_stepTo l g q a b n u lo hu hlo (1) (by omega) lo (fun h => absurd h (by decide)) (fun _ => rfl) (k) (by omega) (by omega) (z) (by omega)) (cwV 2 hts gX1_isParallel_X1_stepTo rfl rfl rfl (by decide +kernel) ⟨Nat.le_of_ble_eq_true rfl, Nat.le_of_ble_eq_true rfl⟩) (z_recv hK hP.1 rfl) hP hK rfl hl.1 rfl (Nat.le_of_ble_eq_true rfl) dX1_isParallel_17 ⟨Nat.zero_le _, Nat.zero_le _⟩ ?_
      refine z_if_eq (tgt := 53) hx hb dX1_isParallel_20 (by decide) (by omega) (fun h20 => ?_) (fun h20 => ?_)
      ·
        refine z_iconst hx hb dX1_isParallel_53 ?_
        exact z_zret hx hb hr hlk dX1_isParallel_54 (by omega) ((pz_f (by simp only [D1, P7]; omega)).symm)
      ·
        refine lv_aload_n hx hb dX1_isParallel_23 rfl (lv_at hl 0 rfl) ?_
        refine lv_iload_n hx hb dX1_isParallel_24 rfl (lv_at hl 1 rfl) ?_
        refine ro_V (rest := []) (As := [.int (zi (z))]) ⟨hx, hb, hml, hown, hts⟩ (c_X1_interval l g q a b n u lo hu hlo (k) (by omega) (z) (by omega)) (cwV 1 hts gX1_isParallel_X1_interval rfl rfl rfl (by decide +kernel) ⟨Nat.le_of_ble_eq_true rfl, Nat.le_of_ble_eq_true rfl⟩) (z_recv hK hP.1 rfl) hP hK rfl hl.1 rfl (Nat.le_of_ble_eq_true rfl) dX1_isParallel_25 ⟨Nat.zero_le _, Nat.zero_le _⟩ ?_
        refine lv_aload_n hx hb dX1_isParallel_28 rfl (lv_at hl 0 rfl) ?_
        refine lv_iload_n hx hb dX1_isParallel_29 rfl (lv_at hl 1 rfl) ?_
        refine z_iconst hx hb dX1_isParallel_30 ?_
        refine z_isub hx hb dX1_isParallel_31 ?_
        refine ro_V (rest := [.int (zi (iv u lo (k)))]) (As := [.int (zi ((z) - (1)))]) ⟨hx, hb, hml, hown, hts⟩ (c_X1_interval l g q a b n u lo hu hlo (k - 1) (by omega) ((z) - (1)) (by omega)) (cwV 1 hts gX1_isParallel_X1_interval rfl rfl rfl (by decide +kernel) ⟨Nat.le_of_ble_eq_true rfl, Nat.le_of_ble_eq_true rfl⟩) (z_recv hK hP.1 rfl) hP hK rfl hl.1 rfl (Nat.le_of_ble_eq_true rfl) dX1_isParallel_32 ⟨Nat.zero_le _, Nat.zero_le _⟩ ?_
        refine z_icmp_ne (tgt := 53) hx hb dX1_isParallel_35 (by decide) (by omega) (by omega) (fun h35 => ?_) (fun h35 => ?_)
        ·
          refine z_iconst hx hb dX1_isParallel_53 ?_
          exact z_zret hx hb hr hlk dX1_isParallel_54 (by omega) ((pz_f (by simp only [D1, P7]; omega)).symm)
        ·
          refine lv_aload_n hx hb dX1_isParallel_38 rfl (lv_at hl 0 rfl) ?_
          refine lv_iload_n hx hb dX1_isParallel_39 rfl (lv_at hl 1 rfl) ?_
          refine ro_V (rest := []) (As := [.int (zi (z))]) ⟨hx, hb, hml, hown, hts⟩ (c_X1_interval l g q a b n u lo hu hlo (k) (by omega) (z) (by omega)) (cwV 1 hts gX1_isParallel_X1_interval rfl rfl rfl (by decide +kernel) ⟨Nat.le_of_ble_eq_true rfl, Nat.le_of_ble_eq_true rfl⟩) (z_recv hK hP.1 rfl) hP hK rfl hl.1 rfl (Nat.le_of_ble_eq_true rfl) dX1_isParallel_40 ⟨Nat.zero_le _, Nat.zero_le _⟩ ?_
          refine ro_S (rest := []) (As := [.int (zi (iv u lo (k)))]) ⟨hx, hb, hml, hown, hts⟩ (c_X1_isPerfect l g (iv u lo (k)) (by have := iv_r u lo k; omega)) (cwS 1 hts gX1_isParallel_X1_isPerfect rfl rfl rfl (by decide +kernel) ⟨Nat.le_of_ble_eq_true rfl, Nat.le_of_ble_eq_true rfl⟩) trivial hK rfl hl.1 rfl (Nat.le_of_ble_eq_true rfl) dX1_isParallel_43 ⟨Nat.zero_le _, Nat.zero_le _⟩ ?_
          refine z_ifp_eq (P := P7 (iv u lo (k))) (tgt := 53) hx hb dX1_isParallel_46 (by decide)  (fun h46 => ?_) (fun h46 => ?_)
          ·
            refine z_iconst hx hb dX1_isParallel_53 ?_
            exact z_zret hx hb hr hlk dX1_isParallel_54 (by omega) ((pz_f (by simp only [D1, P7]; omega)).symm)
          ·
            refine z_iconst hx hb dX1_isParallel_49 ?_
            refine lv_goto (tgt := 54) hx hb dX1_isParallel_50 (by decide) ?_
            exact z_zret hx hb hr hlk dX1_isParallel_54 (by omega) ((pz_t (by simp only [D1, P7]; omega)).symm)

set_option maxHeartbeats 4000000 in
set_option maxRecDepth 100000 in
theorem c_X1_leapsTo (l : Launch) (g : gG) (q a b : Nat) (n : Int) (u lo : Nat → Int) (hu : Nt u) (hlo : Nt lo) (k : Nat) (hk : k < 12) (z : Int) (hz : z = (k : Int)) : RO l yX1_leapsTo wsX1_leapsTo ({ frames := 2, cells := 0, slots := 0, locals := 45 }) g [.ref q, .int (zi (z))] (ScP g q a b n u lo) (F2 u lo k) := by
  refine RO.ofW (cc := cX1_leapsTo) (maxL := 4) (ret := (some .int)) (by decide) rfl (Nat.le_of_ble_eq_true rfl) ?_
  intro p e s m below meth c ls hx hb hr hml hown hts hlk hP hK hl
  have hown : s.vm.findClass RX1 = some m.cls := hown
  have hl : lv_has ls 4 [(0, .ref q), (1, .int (zi (z)))] := hl
  have e1 := hu k
  have e2 := hu (k - 1)
  have e3 := hlo k
  have e4 := hlo (k - 1)
  have r1 := dz_r e1 e2
  have r2 := dz_r e3 e4
  refine lv_iload_n hx hb dX1_leapsTo_0 rfl (lv_at hl 1 rfl) ?_
  refine z_iconst hx hb dX1_leapsTo_1 ?_
  refine z_icmp_ge (tgt := 7) hx hb dX1_leapsTo_2 (by decide) (by omega) (by omega) (fun h2 => ?_) (fun h2 => ?_)
  ·
    refine lv_aload_n hx hb dX1_leapsTo_7 rfl (lv_at hl 0 rfl) ?_
    refine z_iconst hx hb dX1_leapsTo_8 ?_
    refine lv_iload_n hx hb dX1_leapsTo_9 rfl (lv_at hl 1 rfl) ?_
    refine ro_V (rest := []) (As := [.int (zi (0)), .int (zi (z))]) ⟨hx, hb, hml, hown, hts⟩ (c_X1_stepTo l g q a b n u lo hu hlo (0) (by omega) u (fun _ => rfl) (fun h => absurd rfl h) (k) (by omega) (by omega) (z) (by omega)) (cwV 2 hts gX1_leapsTo_X1_stepTo rfl rfl rfl (by decide +kernel) ⟨Nat.le_of_ble_eq_true rfl, Nat.le_of_ble_eq_true rfl⟩) (z_recv hK hP.1 rfl) hP hK rfl hl.1 rfl (Nat.le_of_ble_eq_true rfl) dX1_leapsTo_10 ⟨Nat.zero_le _, Nat.zero_le _⟩ ?_
    refine z_bipush hx hb dX1_leapsTo_13 (by decide) ?_
    refine z_icmp_le (tgt := 22) hx hb dX1_leapsTo_15 (by decide) (by omega) (by omega) (fun h15 => ?_) (fun h15 => ?_)
    ·
      refine z_iconst hx hb dX1_leapsTo_22 ?_
      refine lv_istore_n (lv' := [(2, .int (zi (0))), (0, .ref q), (1, .int (zi (z)))]) hx hb dX1_leapsTo_23 rfl hl (by decide) rfl (fun ls hl => ?_)
      refine lv_aload_n hx hb dX1_leapsTo_24 rfl (lv_at hl 1 rfl) ?_
      refine z_iconst hx hb dX1_leapsTo_25 ?_
      refine lv_iload_n hx hb dX1_leapsTo_26 rfl (lv_at hl 2 rfl) ?_
      refine ro_V (rest := []) (As := [.int (zi (1)), .int (zi (z))]) ⟨hx, hb, hml, hown, hts⟩ (c_X1_stepTo l g q a b n u lo hu hlo (1) (by omega) lo (fun h => absurd h (by decide)) (fun _ => rfl) (k) (by omega) (by omega) (z) (by omega)) (cwV 2 hts gX1_leapsTo_X1_stepTo rfl rfl rfl (by decide +kernel) ⟨Nat.le_of_ble_eq_true rfl, Nat.le_of_ble_eq_true rfl⟩) (z_recv hK hP.1 rfl) hP hK rfl hl.1 rfl (Nat.le_of_ble_eq_true rfl) dX1_leapsTo_27 ⟨Nat.zero_le _, Nat.zero_le _⟩ ?_
      refine z_bipush hx hb dX1_leapsTo_30 (by decide) ?_
      refine z_icmp_le (tgt := 39) hx hb dX1_leapsTo_32 (by decide) (by omega) (by omega) (fun h32 => ?_) (fun h32 => ?_)
      ·
        refine z_iconst hx hb dX1_leapsTo_39 ?_
        refine lv_istore_n (lv' := [(3, .int (zi (0))), (2, .int (zi (0))), (0, .ref q), (1, .int (zi (z)))]) hx hb dX1_leapsTo_40 rfl hl (by decide) rfl (fun ls hl => ?_)
        refine lv_iload_n hx hb dX1_leapsTo_41 rfl (lv_at hl 1 rfl) ?_
        refine lv_iload_n hx hb dX1_leapsTo_42 rfl (lv_at hl 0 rfl) ?_
        refine z_iadd hx hb dX1_leapsTo_43 ?_
        exact z_iret hx hb hr hlk dX1_leapsTo_44 ((by unfold F2; rw [if_pos (by omega), pz_f (by omega), pz_f (by omega)]))
      ·
        refine z_iconst hx hb dX1_leapsTo_35 ?_
        refine lv_goto (tgt := 40) hx hb dX1_leapsTo_36 (by decide) ?_
        refine lv_istore_n (lv' := [(3, .int (zi (1))), (2, .int (zi (0))), (0, .ref q), (1, .int (zi (z)))]) hx hb dX1_leapsTo_40 rfl hl (by decide) rfl (fun ls hl => ?_)
        refine lv_iload_n hx hb dX1_leapsTo_41 rfl (lv_at hl 1 rfl) ?_
        refine lv_iload_n hx hb dX1_leapsTo_42 rfl (lv_at hl 0 rfl) ?_
        refine z_iadd hx hb dX1_leapsTo_43 ?_
        exact z_iret hx hb hr hlk dX1_leapsTo_44 ((by unfold F2; rw [if_pos (by omega), pz_f (by omega), pz_t (by omega)]))
    ·
      refine z_iconst hx hb dX1_leapsTo_18 ?_
      refine lv_goto (tgt := 23) hx hb dX1_leapsTo_19 (by decide) ?_
      refine lv_istore_n (lv' := [(2, .int (zi (1))), (0, .ref q), (1, .int (zi (z)))]) hx hb dX1_leapsTo_23 rfl hl (by decide) rfl (fun ls hl => ?_)
      refine lv_aload_n hx hb dX1_leapsTo_24 rfl (lv_at hl 1 rfl) ?_
      refine z_iconst hx hb dX1_leapsTo_25 ?_
      refine lv_iload_n hx hb dX1_leapsTo_26 rfl (lv_at hl 2 rfl) ?_
      refine ro_V (rest := []) (As := [.int (zi (1)), .int (zi (z))]) ⟨hx, hb, hml, hown, hts⟩ (c_X1_stepTo l g q a b n u lo hu hlo (1) (by omega) lo (fun h => absurd h (by decide)) (fun _ => rfl) (k) (by omega) (by omega) (z) (by omega)) (cwV 2 hts gX1_leapsTo_X1_stepTo rfl rfl rfl (by decide +kernel) ⟨Nat.le_of_ble_eq_true rfl, Nat.le_of_ble_eq_true rfl⟩) (z_recv hK hP.1 rfl) hP hK rfl hl.1 rfl (Nat.le_of_ble_eq_true rfl) dX1_leapsTo_27 ⟨Nat.zero_le _, Nat.zero_le _⟩ ?_
      refine z_bipush hx hb dX1_leapsTo_30 (by decide) ?_
      refine z_icmp_le (tgt := 39) hx hb dX1_leapsTo_32 (by decide) (by omega) (by omega) (fun h32 => ?_) (fun h32 => ?_)
      ·
        refine z_iconst hx hb dX1_leapsTo_39 ?_
        refine lv_istore_n (lv' := [(3, .int (zi (0))), (2, .int (zi (1))), (0, .ref q), (1, .int (zi (z)))]) hx hb dX1_leapsTo_40 rfl hl (by decide) rfl (fun ls hl => ?_)
        refine lv_iload_n hx hb dX1_leapsTo_41 rfl (lv_at hl 1 rfl) ?_
        refine lv_iload_n hx hb dX1_leapsTo_42 rfl (lv_at hl 0 rfl) ?_
        refine z_iadd hx hb dX1_leapsTo_43 ?_
        exact z_iret hx hb hr hlk dX1_leapsTo_44 ((by unfold F2; rw [if_pos (by omega), pz_t (by omega), pz_f (by omega)]))
      ·
        refine z_iconst hx hb dX1_leapsTo_35 ?_
        refine lv_goto (tgt := 40) hx hb dX1_leapsTo_36 (by decide) ?_
        refine lv_istore_n (lv' := [(3, .int (zi (1))), (2, .int (zi (1))), (0, .ref q), (1, .int (zi (z)))]) hx hb dX1_leapsTo_40 rfl hl (by decide) rfl (fun ls hl => ?_)
        refine lv_iload_n hx hb dX1_leapsTo_41 rfl (lv_at hl 1 rfl) ?_
        refine lv_iload_n hx hb dX1_leapsTo_42 rfl (lv_at hl 0 rfl) ?_
        refine z_iadd hx hb dX1_leapsTo_43 ?_
        exact z_iret hx hb hr hlk dX1_leapsTo_44 ((by unfold F2; rw [if_pos (by omega), pz_t (by omega), pz_t (by omega)]))
  ·
    refine z_iconst hx hb dX1_leapsTo_5 ?_
    exact z_iret hx hb hr hlk dX1_leapsTo_6 ((show _ = F2 u lo k from by unfold F2; rw [if_neg (by omega)]))

set_option maxHeartbeats 4000000 in
set_option maxRecDepth 100000 in
theorem c_X1_badEndsAt (l : Launch) (g : gG) (q a b : Nat) (n : Int) (u lo : Nat → Int) (hu : Nt u) (hlo : Nt lo) (k : Nat) (hk : k < 12) (z : Int) (hz : z = (k : Int)) (nb : Nat) (hn : n = (nb : Int)) (hn1 : nb ≤ 12) : RO l yX1_badEndsAt wsX1_badEndsAt ({ frames := 2, cells := 0, slots := 0, locals := 44 }) g [.ref q, .int (zi (z))] (ScP g q a b n u lo) (F4 nb u lo k) := by
  refine RO.ofW (cc := cX1_badEndsAt) (maxL := 4) (ret := (some .int)) (by decide) rfl (Nat.le_of_ble_eq_true rfl) ?_
  intro p e s m below meth c ls hx hb hr hml hown hts hlk hP hK hl
  have hown : s.vm.findClass RX1 = some m.cls := hown
  have hl : lv_has ls 4 [(0, .ref q), (1, .int (zi (z)))] := hl
  have hiX1 : ∀ w ∈ u_ws RX1 TX1 3, w ∈ wsX1_badEndsAt := by decide +kernel
  refine lv_aload_n hx hb dX1_badEndsAt_0 rfl (lv_at hl 0 rfl) ?_
  refine lv_iload_n hx hb dX1_badEndsAt_1 rfl (lv_at hl 1 rfl) ?_
  refine ro_V (rest := []) (As := [.int (zi (z))]) ⟨hx, hb, hml, hown, hts⟩ (c_X1_interval l g q a b n u lo hu hlo (k) (by omega) (z) (by omega)) (cwV 1 hts gX1_badEndsAt_X1_interval rfl rfl rfl (by decide +kernel) ⟨Nat.le_of_ble_eq_true rfl, Nat.le_of_ble_eq_true rfl⟩) (z_recv hK hP.1 rfl) hP hK rfl hl.1 rfl (Nat.le_of_ble_eq_true rfl) dX1_badEndsAt_2 ⟨Nat.zero_le _, Nat.zero_le _⟩ ?_
  refine ro_S (rest := []) (As := [.int (zi (iv u lo (k)))]) ⟨hx, hb, hml, hown, hts⟩ (c_X1_isPerfect l g (iv u lo (k)) (by have := iv_r u lo k; omega)) (cwS 1 hts gX1_badEndsAt_X1_isPerfect rfl rfl rfl (by decide +kernel) ⟨Nat.le_of_ble_eq_true rfl, Nat.le_of_ble_eq_true rfl⟩) trivial hK rfl hl.1 rfl (Nat.le_of_ble_eq_true rfl) dX1_badEndsAt_5 ⟨Nat.zero_le _, Nat.zero_le _⟩ ?_
  refine z_ifp_eq (P := P7 (iv u lo (k))) (tgt := 13) hx hb dX1_badEndsAt_8 (by decide)  (fun h8 => ?_) (fun h8 => ?_)
  ·
    refine lv_iload_n hx hb dX1_badEndsAt_13 rfl (lv_at hl 1 rfl) ?_
    refine z_if_ne (tgt := 21) hx hb dX1_badEndsAt_14 (by decide) (by omega) (fun h14 => ?_) (fun h14 => ?_)
    ·
      refine z_iconst hx hb dX1_badEndsAt_21 ?_
      refine lv_istore_n (lv' := [(2, .int (zi (0))), (0, .ref q), (1, .int (zi (z)))]) hx hb dX1_badEndsAt_22 rfl hl (by decide) rfl (fun ls hl => ?_)
      refine lv_iload_n hx hb dX1_badEndsAt_23 rfl (lv_at hl 2 rfl) ?_
      refine lv_aload_n hx hb dX1_badEndsAt_24 rfl (lv_at hl 1 rfl) ?_
      refine z_get (C := RX1) (T := TX1) (N := 3) hx hb hts hiX1 hown hK hP.1 rfl 0 (by decide) (hts (.fieldLink RX1 9 "HarmoniumDesk$Score" "bars" "I") (by decide +kernel)) rfl rfl dX1_badEndsAt_25 ?_
      refine z_iconst hx hb dX1_badEndsAt_28 ?_
      refine z_isub hx hb dX1_badEndsAt_29 ?_
      refine z_icmp_ne (tgt := 37) hx hb dX1_badEndsAt_30 (by decide) (by omega) (by omega) (fun h30 => ?_) (fun h30 => ?_)
      ·
        refine z_iconst hx hb dX1_badEndsAt_37 ?_
        refine lv_istore_n (lv' := [(3, .int (zi (0))), (2, .int (zi (0))), (0, .ref q), (1, .int (zi (z)))]) hx hb dX1_badEndsAt_38 rfl hl (by decide) rfl (fun ls hl => ?_)
        refine lv_iload_n hx hb dX1_badEndsAt_39 rfl (lv_at hl 1 rfl) ?_
        refine lv_iload_n hx hb dX1_badEndsAt_40 rfl (lv_at hl 0 rfl) ?_
        refine z_iadd hx hb dX1_badEndsAt_41 ?_
        exact z_iret hx hb hr hlk dX1_badEndsAt_42 ((by unfold F4; rw [if_neg (by assumption), pz_f (by omega), pz_f (by omega)]))
      ·
        refine z_iconst hx hb dX1_badEndsAt_33 ?_
        refine lv_goto (tgt := 38) hx hb dX1_badEndsAt_34 (by decide) ?_
        refine lv_istore_n (lv' := [(3, .int (zi (1))), (2, .int (zi (0))), (0, .ref q), (1, .int (zi (z)))]) hx hb dX1_badEndsAt_38 rfl hl (by decide) rfl (fun ls hl => ?_)
        refine lv_iload_n hx hb dX1_badEndsAt_39 rfl (lv_at hl 1 rfl) ?_
        refine lv_iload_n hx hb dX1_badEndsAt_40 rfl (lv_at hl 0 rfl) ?_
        refine z_iadd hx hb dX1_badEndsAt_41 ?_
        exact z_iret hx hb hr hlk dX1_badEndsAt_42 ((by unfold F4; rw [if_neg (by assumption), pz_f (by omega), pz_t (by omega)]))
    ·
      refine z_iconst hx hb dX1_badEndsAt_17 ?_
      refine lv_goto (tgt := 22) hx hb dX1_badEndsAt_18 (by decide) ?_
      refine lv_istore_n (lv' := [(2, .int (zi (1))), (0, .ref q), (1, .int (zi (z)))]) hx hb dX1_badEndsAt_22 rfl hl (by decide) rfl (fun ls hl => ?_)
      refine lv_iload_n hx hb dX1_badEndsAt_23 rfl (lv_at hl 2 rfl) ?_
      refine lv_aload_n hx hb dX1_badEndsAt_24 rfl (lv_at hl 1 rfl) ?_
      refine z_get (C := RX1) (T := TX1) (N := 3) hx hb hts hiX1 hown hK hP.1 rfl 0 (by decide) (hts (.fieldLink RX1 9 "HarmoniumDesk$Score" "bars" "I") (by decide +kernel)) rfl rfl dX1_badEndsAt_25 ?_
      refine z_iconst hx hb dX1_badEndsAt_28 ?_
      refine z_isub hx hb dX1_badEndsAt_29 ?_
      refine z_icmp_ne (tgt := 37) hx hb dX1_badEndsAt_30 (by decide) (by omega) (by omega) (fun h30 => ?_) (fun h30 => ?_)
      ·
        refine z_iconst hx hb dX1_badEndsAt_37 ?_
        refine lv_istore_n (lv' := [(3, .int (zi (0))), (2, .int (zi (1))), (0, .ref q), (1, .int (zi (z)))]) hx hb dX1_badEndsAt_38 rfl hl (by decide) rfl (fun ls hl => ?_)
        refine lv_iload_n hx hb dX1_badEndsAt_39 rfl (lv_at hl 1 rfl) ?_
        refine lv_iload_n hx hb dX1_badEndsAt_40 rfl (lv_at hl 0 rfl) ?_
        refine z_iadd hx hb dX1_badEndsAt_41 ?_
        exact z_iret hx hb hr hlk dX1_badEndsAt_42 ((by unfold F4; rw [if_neg (by assumption), pz_t (by omega), pz_f (by omega)]))
      ·
        refine z_iconst hx hb dX1_badEndsAt_33 ?_
        refine lv_goto (tgt := 38) hx hb dX1_badEndsAt_34 (by decide) ?_
        refine lv_istore_n (lv' := [(3, .int (zi (1))), (2, .int (zi (1))), (0, .ref q), (1, .int (zi (z)))]) hx hb dX1_badEndsAt_38 rfl hl (by decide) rfl (fun ls hl => ?_)
        refine lv_iload_n hx hb dX1_badEndsAt_39 rfl (lv_at hl 1 rfl) ?_
        refine lv_iload_n hx hb dX1_badEndsAt_40 rfl (lv_at hl 0 rfl) ?_
        refine z_iadd hx hb dX1_badEndsAt_41 ?_
        exact z_iret hx hb hr hlk dX1_badEndsAt_42 ((by unfold F4; rw [if_neg (by assumption), pz_t (by omega), pz_t (by omega)]))
  ·
    refine z_iconst hx hb dX1_badEndsAt_11 ?_
    exact z_iret hx hb hr hlk dX1_badEndsAt_12 ((by unfold F4; rw [if_pos (by assumption)]))

set_option maxHeartbeats 4000000 in
set_option maxRecDepth 100000 in
theorem c_X1_isStanding (l : Launch) (g : gG) (q a b : Nat) (n : Int) (u lo : Nat → Int) (hu : Nt u) (hlo : Nt lo) (k : Nat) (hk : k < 12) (z : Int) (hz : z = (k : Int)) : RO l yX1_isStanding wsX1_isStanding ({ frames := 2, cells := 0, slots := 0, locals := 45 }) g [.ref q, .int (zi (z))] (ScP g q a b n u lo) (pz (D5 u k)) := by
  refine RO.ofW (cc := cX1_isStanding) (maxL := 2) (ret := (some .boolean)) (by decide) rfl (Nat.le_of_ble_eq_true rfl) ?_
  intro p e s m below meth c ls hx hb hr hml hown hts hlk hP hK hl
  have hown : s.vm.findClass RX1 = some m.cls := hown
  have hl : lv_has ls 2 [(0, .ref q), (1, .int (zi (z)))] := hl
  have e1 := hu k
  have e2 := hu (k - 1)
  have e3 := hu (k - 1 - 1)
  have r1 := dz_r e1 e2
  have r2 := dz_r e2 e3
  have z1 := @dz_0 (u k) (u (k - 1))
  have z2 := @dz_0 (u (k - 1)) (u (k - 1 - 1))
  have z3 : k - 1 - 1 = k - 2 := by omega
  rw [z3] at z2 r2 e3
  refine lv_iload_n hx hb dX1_isStanding_0 rfl (lv_at hl 1 rfl) ?_
  refine z_iconst hx hb dX1_isStanding_1 ?_
  refine z_icmp_lt (tgt := 29) hx hb dX1_isStanding_2 (by decide) (by omega) (by omega) (fun h2 => ?_) (fun h2 => ?_)
  ·
    refine z_iconst hx hb dX1_isStanding_29 ?_
    exact z_zret hx hb hr hlk dX1_isStanding_30 (by omega) ((pz_f (by simp only [D5]; omega)).symm)
  ·
    refine lv_aload_n hx hb dX1_isStanding_5 rfl (lv_at hl 0 rfl) ?_
    refine z_iconst hx hb dX1_isStanding_6 ?_
    refine lv_iload_n hx hb dX1_isStanding_7 rfl (lv_at hl 1 rfl) ?_
    refine ro_V (rest := []) (As := [.int (zi (0)), .int (zi (z))]) ⟨hx, hb, hml, hown, hts⟩ (c_X1_stepTo l g q a b n u lo hu hlo (0) (by omega) u (fun _ => rfl) (fun h => absurd rfl h) (k) (by omega) (by omega) (z) (by omega)) (cwV 2 hts gX1_isStanding_X1_stepTo rfl rfl rfl (by decide +kernel) ⟨Nat.le_of_ble_eq_true rfl, Nat.le_of_ble_eq_true rfl⟩) (z_recv hK hP.1 rfl) hP hK rfl hl.1 rfl (Nat.le_of_ble_eq_true rfl) dX1_isStanding_8 ⟨Nat.zero_le _, Nat.zero_le _⟩ ?_
    refine z_if_ne (tgt := 29) hx hb dX1_isStanding_11 (by decide) (by omega) (fun h11 => ?_) (fun h11 => ?_)
    ·
      refine z_iconst hx hb dX1_isStanding_29 ?_
      exact z_zret hx hb hr hlk dX1_isStanding_30 (by omega) ((pz_f (by simp only [D5]; omega)).symm)
    ·
      refine lv_aload_n hx hb dX1_isStanding_14 rfl (lv_at hl 0 rfl) ?_
      refine z_iconst hx hb dX1_isStanding_15 ?_
      refine lv_iload_n hx hb dX1_isStanding_16 rfl (lv_at hl 1 rfl) ?_
      refine z_iconst hx hb dX1_isStanding_17 ?_
      refine z_isub hx hb dX1_isStanding_18 ?_
      refine ro_V (rest := []) (As := [.int (zi (0)), .int (zi ((z) - (1)))]) ⟨hx, hb, hml, hown, hts⟩ (c_X1_stepTo l g q a b n u lo hu hlo (0) (by omega) u (fun _ => rfl) (fun h => absurd rfl h) (k - 1) (by omega) (by omega) ((z) - (1)) (by omega)) (cwV 2 hts gX1_isStanding_X1_stepTo rfl rfl rfl (by decide +kernel) ⟨Nat.le_of_ble_eq_true rfl, Nat.le_of_ble_eq_true rfl⟩) (z_recv hK hP.1 rfl) hP hK rfl hl.1 rfl (Nat.le_of_ble_eq_true rfl) dX1_isStanding_19 ⟨Nat.zero_le _, Nat.zero_le _⟩ ?_
      refine z_top (b := dz (u (k - 1)) (u (k - 2))) (by rw [z3]) ?_
      refine z_if_ne (tgt := 29) hx hb dX1_isStanding_22 (by decide) (by omega) (fun h22 => ?_) (fun h22 => ?_)
      ·
        refine z_iconst hx hb dX1_isStanding_29 ?_
        exact z_zret hx hb hr hlk dX1_isStanding_30 (by omega) ((pz_f (by simp only [D5]; omega)).symm)
      ·
        refine z_iconst hx hb dX1_isStanding_25 ?_
        refine lv_goto (tgt := 30) hx hb dX1_isStanding_26 (by decide) ?_
        exact z_zret hx hb hr hlk dX1_isStanding_30 (by omega) ((pz_t (by simp only [D5]; omega)).symm)

set_option maxHeartbeats 4000000 in
set_option maxRecDepth 100000 in
/-- what a rule finds at a bar -/
theorem c_X1_faultsOf (l : Launch) (g : gG) (q a b : Nat) (n : Int) (u lo : Nat → Int) (hu : Nt u) (hlo : Nt lo) (k : Nat) (hk : k < 12) (z : Int) (hz : z = (k : Int)) (nb : Nat) (hn : n = (nb : Int)) (hn1 : nb ≤ 12) (r : Nat) (hr6 : r < 6) (zr1 : Int) (hzr : zr1 = (r : Int)) : RO l yX1_faultsOf wsX1_faultsOf ({ frames := 3, cells := 0, slots := 0, locals := 68 }) g [.ref q, .int (zi (zr1)), .int (zi (z))] (ScP g q a b n u lo) (ft r nb u lo k) := by
  refine RO.ofW (cc := cX1_faultsOf) (maxL := 3) (ret := (some .int)) (by decide) rfl (Nat.le_of_ble_eq_true rfl) ?_
  intro p e s m below meth c ls hx hb hr hml hown hts hlk hP hK hl
  have hown : s.vm.findClass RX1 = some m.cls := hown
  have hl : lv_has ls 3 [(0, .ref q), (1, .int (zi (zr1))), (2, .int (zi (z)))] := hl
  have h1 := hu k
  have h2 := hlo k
  refine lv_iload_n hx hb dX1_faultsOf_0 rfl (lv_at hl 1 rfl) ?_
  by_cases e0 : r = 0
  · subst e0
    refine z_top (b := 0) hzr ?_
    refine lv_tableIn (off := 39) (tgt := 40) hx hb dX1_faultsOf_1 (by decide +kernel) (by decide +kernel) (by decide +kernel) (by decide) ?_
    refine lv_aload_n hx hb dX1_faultsOf_40 rfl (lv_at hl 0 rfl) ?_
    refine lv_iload_n hx hb dX1_faultsOf_41 rfl (lv_at hl 2 rfl) ?_
    refine ro_V (rest := []) (As := [.int (zi (z))]) ⟨hx, hb, hml, hown, hts⟩ (c_X1_isDiscord l g q a b n u lo hu hlo k hk (z) (by omega)) (cwV 1 hts gX1_faultsOf_X1_isDiscord rfl rfl rfl (by decide +kernel) ⟨Nat.le_of_ble_eq_true rfl, Nat.le_of_ble_eq_true rfl⟩) (z_recv hK hP.1 rfl) hP hK rfl hl.1 rfl (Nat.le_of_ble_eq_true rfl) dX1_faultsOf_42 ⟨Nat.zero_le _, Nat.zero_le _⟩ ?_
    refine z_ifp_eq (P := D0 u lo k) (tgt := 52) hx hb dX1_faultsOf_45 (by decide)  (fun h45 => ?_) (fun h45 => ?_)
    ·
      refine z_iconst hx hb dX1_faultsOf_52 ?_
      exact z_iret hx hb hr hlk dX1_faultsOf_53 (show _ = pz _ from (pz_f (by assumption)).symm)
    ·
      refine z_iconst hx hb dX1_faultsOf_48 ?_
      refine lv_goto (tgt := 53) hx hb dX1_faultsOf_49 (by decide) ?_
      exact z_iret hx hb hr hlk dX1_faultsOf_53 (show _ = pz _ from (pz_t (by assumption)).symm)
  by_cases e1 : r = 1
  · subst e1
    refine z_top (b := 1) hzr ?_
    refine lv_tableIn (off := 53) (tgt := 54) hx hb dX1_faultsOf_1 (by decide +kernel) (by decide +kernel) (by decide +kernel) (by decide) ?_
    refine lv_aload_n hx hb dX1_faultsOf_54 rfl (lv_at hl 0 rfl) ?_
    refine lv_iload_n hx hb dX1_faultsOf_55 rfl (lv_at hl 2 rfl) ?_
    refine ro_V (rest := []) (As := [.int (zi (z))]) ⟨hx, hb, hml, hown, hts⟩ (c_X1_isParallel l g q a b n u lo hu hlo k hk (z) (by omega)) (cwV 1 hts gX1_faultsOf_X1_isParallel rfl rfl rfl (by decide +kernel) ⟨Nat.le_of_ble_eq_true rfl, Nat.le_of_ble_eq_true rfl⟩) (z_recv hK hP.1 rfl) hP hK rfl hl.1 rfl (Nat.le_of_ble_eq_true rfl) dX1_faultsOf_56 ⟨Nat.zero_le _, Nat.zero_le _⟩ ?_
    refine z_ifp_eq (P := D1 u lo k) (tgt := 66) hx hb dX1_faultsOf_59 (by decide)  (fun h59 => ?_) (fun h59 => ?_)
    ·
      refine z_iconst hx hb dX1_faultsOf_66 ?_
      exact z_iret hx hb hr hlk dX1_faultsOf_67 (show _ = pz _ from (pz_f (by assumption)).symm)
    ·
      refine z_iconst hx hb dX1_faultsOf_62 ?_
      refine lv_goto (tgt := 67) hx hb dX1_faultsOf_63 (by decide) ?_
      exact z_iret hx hb hr hlk dX1_faultsOf_67 (show _ = pz _ from (pz_t (by assumption)).symm)
  by_cases e2 : r = 2
  · subst e2
    refine z_top (b := 2) hzr ?_
    refine lv_tableIn (off := 67) (tgt := 68) hx hb dX1_faultsOf_1 (by decide +kernel) (by decide +kernel) (by decide +kernel) (by decide) ?_
    refine lv_aload_n hx hb dX1_faultsOf_68 rfl (lv_at hl 0 rfl) ?_
    refine lv_iload_n hx hb dX1_faultsOf_69 rfl (lv_at hl 2 rfl) ?_
    refine ro_V (rest := []) (As := [.int (zi (z))]) ⟨hx, hb, hml, hown, hts⟩ (c_X1_leapsTo l g q a b n u lo hu hlo k hk (z) (by omega)) (cwV 1 hts gX1_faultsOf_X1_leapsTo rfl rfl rfl (by decide +kernel) ⟨Nat.le_of_ble_eq_true rfl, Nat.le_of_ble_eq_true rfl⟩) (z_recv hK hP.1 rfl) hP hK rfl hl.1 rfl (Nat.le_of_ble_eq_true rfl) dX1_faultsOf_70 ⟨Nat.zero_le _, Nat.zero_le _⟩ ?_
    exact z_iret hx hb hr hlk dX1_faultsOf_73 (rfl)
  by_cases e3 : r = 3
  · subst e3
    refine z_top (b := 3) hzr ?_
    refine lv_tableIn (off := 73) (tgt := 74) hx hb dX1_faultsOf_1 (by decide +kernel) (by decide +kernel) (by decide +kernel) (by decide) ?_
    refine lv_aload_n hx hb dX1_faultsOf_74 rfl (lv_at hl 0 rfl) ?_
    refine z_iconst hx hb dX1_faultsOf_75 ?_
    refine lv_iload_n hx hb dX1_faultsOf_76 rfl (lv_at hl 2 rfl) ?_
    refine ro_V (rest := []) (As := [.int (zi (0)), .int (zi (z))]) ⟨hx, hb, hml, hown, hts⟩ (c_X1_tone l g q a b n u lo hu hlo (0) (by omega) (k) (by omega) (z) (by omega) (u (k)) (fun _ => rfl) (fun h => absurd rfl h)) (cwV 2 hts gX1_faultsOf_X1_tone rfl rfl rfl (by decide +kernel) ⟨Nat.le_of_ble_eq_true rfl, Nat.le_of_ble_eq_true rfl⟩) (z_recv hK hP.1 rfl) hP hK rfl hl.1 rfl (Nat.le_of_ble_eq_true rfl) dX1_faultsOf_77 ⟨Nat.zero_le _, Nat.zero_le _⟩ ?_
    refine lv_aload_n hx hb dX1_faultsOf_80 rfl (lv_at hl 0 rfl) ?_
    refine z_iconst hx hb dX1_faultsOf_81 ?_
    refine lv_iload_n hx hb dX1_faultsOf_82 rfl (lv_at hl 2 rfl) ?_
    refine ro_V (rest := [.int (zi (u (k)))]) (As := [.int (zi (1)), .int (zi (z))]) ⟨hx, hb, hml, hown, hts⟩ (c_X1_tone l g q a b n u lo hu hlo (1) (by omega) (k) (by omega) (z) (by omega) (lo (k)) (fun h => absurd h (by decide)) (fun _ => rfl)) (cwV 2 hts gX1_faultsOf_X1_tone rfl rfl rfl (by decide +kernel) ⟨Nat.le_of_ble_eq_true rfl, Nat.le_of_ble_eq_true rfl⟩) (z_recv hK hP.1 rfl) hP hK rfl hl.1 rfl (Nat.le_of_ble_eq_true rfl) dX1_faultsOf_83 ⟨Nat.zero_le _, Nat.zero_le _⟩ ?_
    refine z_icmp_ge (tgt := 93) hx hb dX1_faultsOf_86 (by decide) (by omega) (by omega) (fun h86 => ?_) (fun h86 => ?_)
    ·
      refine z_iconst hx hb dX1_faultsOf_93 ?_
      exact z_iret hx hb hr hlk dX1_faultsOf_94 (show _ = pz (D3 u lo k) from (pz_f (by simp only [D3]; omega)).symm)
    ·
      refine z_iconst hx hb dX1_faultsOf_89 ?_
      refine lv_goto (tgt := 94) hx hb dX1_faultsOf_90 (by decide) ?_
      exact z_iret hx hb hr hlk dX1_faultsOf_94 (show _ = pz (D3 u lo k) from (pz_t (by simp only [D3]; omega)).symm)
  by_cases e4 : r = 4
  · subst e4
    refine z_top (b := 4) hzr ?_
    refine lv_tableIn (off := 94) (tgt := 95) hx hb dX1_faultsOf_1 (by decide +kernel) (by decide +kernel) (by decide +kernel) (by decide) ?_
    refine lv_aload_n hx hb dX1_faultsOf_95 rfl (lv_at hl 0 rfl) ?_
    refine lv_iload_n hx hb dX1_faultsOf_96 rfl (lv_at hl 2 rfl) ?_
    refine ro_V (rest := []) (As := [.int (zi (z))]) ⟨hx, hb, hml, hown, hts⟩ (c_X1_badEndsAt l g q a b n u lo hu hlo k hk (z) (by omega) nb hn hn1) (cwV 1 hts gX1_faultsOf_X1_badEndsAt rfl rfl rfl (by decide +kernel) ⟨Nat.le_of_ble_eq_true rfl, Nat.le_of_ble_eq_true rfl⟩) (z_recv hK hP.1 rfl) hP hK rfl hl.1 rfl (Nat.le_of_ble_eq_true rfl) dX1_faultsOf_97 ⟨Nat.zero_le _, Nat.zero_le _⟩ ?_
    exact z_iret hx hb hr hlk dX1_faultsOf_100 (rfl)
  by_cases e5 : r = 5
  · subst e5
    refine z_top (b := 5) hzr ?_
    refine lv_tableIn (off := 100) (tgt := 101) hx hb dX1_faultsOf_1 (by decide +kernel) (by decide +kernel) (by decide +kernel) (by decide) ?_
    refine lv_aload_n hx hb dX1_faultsOf_101 rfl (lv_at hl 0 rfl) ?_
    refine lv_iload_n hx hb dX1_faultsOf_102 rfl (lv_at hl 2 rfl) ?_
    refine ro_V (rest := []) (As := [.int (zi (z))]) ⟨hx, hb, hml, hown, hts⟩ (c_X1_isStanding l g q a b n u lo hu hlo k hk (z) (by omega)) (cwV 1 hts gX1_faultsOf_X1_isStanding rfl rfl rfl (by decide +kernel) ⟨Nat.le_of_ble_eq_true rfl, Nat.le_of_ble_eq_true rfl⟩) (z_recv hK hP.1 rfl) hP hK rfl hl.1 rfl (Nat.le_of_ble_eq_true rfl) dX1_faultsOf_103 ⟨Nat.zero_le _, Nat.zero_le _⟩ ?_
    refine z_ifp_eq (P := D5 u k) (tgt := 113) hx hb dX1_faultsOf_106 (by decide)  (fun h106 => ?_) (fun h106 => ?_)
    ·
      refine z_iconst hx hb dX1_faultsOf_113 ?_
      exact z_iret hx hb hr hlk dX1_faultsOf_114 (show _ = pz _ from (pz_f (by assumption)).symm)
    ·
      refine z_iconst hx hb dX1_faultsOf_109 ?_
      refine lv_goto (tgt := 114) hx hb dX1_faultsOf_110 (by decide) ?_
      exact z_iret hx hb hr hlk dX1_faultsOf_114 (show _ = pz _ from (pz_t (by assumption)).symm)
  exact absurd hr6 (by omega)

abbrev Sb (u lo u2 lo2 : Nat → Int) (k : Nat) : Prop := u k = u2 k ∧ lo k = lo2 k

set_option maxHeartbeats 4000000 in
set_option maxRecDepth 100000 in
theorem c_X1_sameBar (l : Launch) (g : gG) (q a b : Nat) (n : Int) (u lo : Nat → Int) (hu : Nt u) (hlo : Nt lo) (q2 a2 b2 : Nat) (n2 : Int) (u2 lo2 : Nat → Int) (hu2 : Nt u2) (hlo2 : Nt lo2) (k : Nat) (hk : k < 12) (z : Int) (hz : z = (k : Int)) : RO l yX1_sameBar wsX1_sameBar ({ frames := 1, cells := 0, slots := 0, locals := 23 }) g [.ref q, .ref q2, .int (zi (z))] (fun H => ScP g q a b n u lo H ∧ ScP g q2 a2 b2 n2 u2 lo2 H) (pz (Sb u lo u2 lo2 k)) := by
  refine RO.ofW (cc := cX1_sameBar) (maxL := 3) (ret := (some .boolean)) (by decide) rfl (Nat.le_of_ble_eq_true rfl) ?_
  intro p e s m below meth c ls hx hb hr hml hown hts hlk hP hK hl
  have hown : s.vm.findClass RX1 = some m.cls := hown
  have hl : lv_has ls 3 [(0, .ref q), (1, .ref q2), (2, .int (zi (z)))] := hl
  have h1 := hu k
  have h2 := hlo k
  have h3 := hu2 k
  have h4 := hlo2 k
  refine lv_aload_n hx hb dX1_sameBar_0 rfl (lv_at hl 0 rfl) ?_
  refine z_iconst hx hb dX1_sameBar_1 ?_
  refine lv_iload_n hx hb dX1_sameBar_2 rfl (lv_at hl 2 rfl) ?_
  refine ro_V (rest := []) (As := [.int (zi (0)), .int (zi (z))]) ⟨hx, hb, hml, hown, hts⟩ (c_X1_tone l g q a b n u lo hu hlo (0) (by omega) k hk (z) (by omega) (u (k)) (fun _ => rfl) (fun h => absurd rfl h)) (cwV 2 hts gX1_sameBar_X1_tone rfl rfl rfl (by decide +kernel) ⟨Nat.le_of_ble_eq_true rfl, Nat.le_of_ble_eq_true rfl⟩) (z_recv hK hP.1.1 rfl) hP.1 hK rfl hl.1 rfl (Nat.le_of_ble_eq_true rfl) dX1_sameBar_3 ⟨Nat.zero_le _, Nat.zero_le _⟩ ?_
  refine lv_aload_n hx hb dX1_sameBar_6 rfl (lv_at hl 1 rfl) ?_
  refine z_iconst hx hb dX1_sameBar_7 ?_
  refine lv_iload_n hx hb dX1_sameBar_8 rfl (lv_at hl 2 rfl) ?_
  refine ro_V (rest := [.int (zi (u (k)))]) (As := [.int (zi (0)), .int (zi (z))]) ⟨hx, hb, hml, hown, hts⟩ (c_X1_tone l g q2 a2 b2 n2 u2 lo2 hu2 hlo2 (0) (by omega) k hk (z) (by omega) (u2 (k)) (fun _ => rfl) (fun h => absurd rfl h)) (cwV 2 hts gX1_sameBar_X1_tone rfl rfl rfl (by decide +kernel) ⟨Nat.le_of_ble_eq_true rfl, Nat.le_of_ble_eq_true rfl⟩) (z_recv hK hP.2.1 rfl) hP.2 hK rfl hl.1 rfl (Nat.le_of_ble_eq_true rfl) dX1_sameBar_9 ⟨Nat.zero_le _, Nat.zero_le _⟩ ?_
  refine z_icmp_ne (tgt := 34) hx hb dX1_sameBar_12 (by decide) (by omega) (by omega) (fun h12 => ?_) (fun h12 => ?_)
  ·
    refine z_iconst hx hb dX1_sameBar_34 ?_
    exact z_zret hx hb hr hlk dX1_sameBar_35 (by omega) ((pz_f (by simp only [Sb]; omega)).symm)
  ·
    refine lv_aload_n hx hb dX1_sameBar_15 rfl (lv_at hl 0 rfl) ?_
    refine z_iconst hx hb dX1_sameBar_16 ?_
    refine lv_iload_n hx hb dX1_sameBar_17 rfl (lv_at hl 2 rfl) ?_
    refine ro_V (rest := []) (As := [.int (zi (1)), .int (zi (z))]) ⟨hx, hb, hml, hown, hts⟩ (c_X1_tone l g q a b n u lo hu hlo (1) (by omega) k hk (z) (by omega) (lo (k)) (fun h => absurd h (by decide)) (fun _ => rfl)) (cwV 2 hts gX1_sameBar_X1_tone rfl rfl rfl (by decide +kernel) ⟨Nat.le_of_ble_eq_true rfl, Nat.le_of_ble_eq_true rfl⟩) (z_recv hK hP.1.1 rfl) hP.1 hK rfl hl.1 rfl (Nat.le_of_ble_eq_true rfl) dX1_sameBar_18 ⟨Nat.zero_le _, Nat.zero_le _⟩ ?_
    refine lv_aload_n hx hb dX1_sameBar_21 rfl (lv_at hl 1 rfl) ?_
    refine z_iconst hx hb dX1_sameBar_22 ?_
    refine lv_iload_n hx hb dX1_sameBar_23 rfl (lv_at hl 2 rfl) ?_
    refine ro_V (rest := [.int (zi (lo (k)))]) (As := [.int (zi (1)), .int (zi (z))]) ⟨hx, hb, hml, hown, hts⟩ (c_X1_tone l g q2 a2 b2 n2 u2 lo2 hu2 hlo2 (1) (by omega) k hk (z) (by omega) (lo2 (k)) (fun h => absurd h (by decide)) (fun _ => rfl)) (cwV 2 hts gX1_sameBar_X1_tone rfl rfl rfl (by decide +kernel) ⟨Nat.le_of_ble_eq_true rfl, Nat.le_of_ble_eq_true rfl⟩) (z_recv hK hP.2.1 rfl) hP.2 hK rfl hl.1 rfl (Nat.le_of_ble_eq_true rfl) dX1_sameBar_24 ⟨Nat.zero_le _, Nat.zero_le _⟩ ?_
    refine z_icmp_ne (tgt := 34) hx hb dX1_sameBar_27 (by decide) (by omega) (by omega) (fun h27 => ?_) (fun h27 => ?_)
    ·
      refine z_iconst hx hb dX1_sameBar_34 ?_
      exact z_zret hx hb hr hlk dX1_sameBar_35 (by omega) ((pz_f (by simp only [Sb]; omega)).symm)
    ·
      refine z_iconst hx hb dX1_sameBar_30 ?_
      refine lv_goto (tgt := 35) hx hb dX1_sameBar_31 (by decide) ?_
      exact z_zret hx hb hr hlk dX1_sameBar_35 (by omega) ((pz_t (by simp only [Sb]; omega)).symm)

set_option maxHeartbeats 4000000 in
set_option maxRecDepth 100000 in
/-- how far a voice goes -/
theorem c_X1_wayOf (l : Launch) (g : gG) (q a b : Nat) (n : Int) (u lo : Nat → Int) (hu : Nt u) (hlo : Nt lo) (v : Int) (hv : zr v) (w : Nat → Int) (hw0 : v = 0 → w = u) (hw1 : ¬ v = 0 → w = lo) (nb : Nat) (hn : n = (nb : Int)) (hn1 : 1 ≤ nb ∧ nb ≤ 12) : RO l yX1_wayOf wsX1_wayOf ({ frames := 2, cells := 0, slots := 0, locals := 45 }) g [.ref q, .int (zi (v))] (ScP g q a b n u lo) (wy w nb) := by
  refine RO.ofW (cc := cX1_wayOf) (maxL := 4) (ret := (some .int)) (by decide) rfl (Nat.le_of_ble_eq_true rfl) ?_
  intro p e s m below meth c ls hx hb hr hml hown hts hlk hP hK hl
  have hown : s.vm.findClass RX1 = some m.cls := hown
  have hl : lv_has ls 4 [(0, .ref q), (1, .int (zi (v)))] := hl
  have hiX1 : ∀ w ∈ u_ws RX1 TX1 3, w ∈ wsX1_wayOf := by decide +kernel
  have hw : Nt w := if h : v = 0 then by rw [hw0 h]; exact hu else by rw [hw1 h]; exact hlo
  refine z_iconst hx hb dX1_wayOf_0 ?_
  refine lv_istore_n (lv' := [(2, .int (zi (0))), (0, .ref q), (1, .int (zi (v)))]) hx hb dX1_wayOf_1 rfl hl (by decide) rfl (fun ls hl => ?_)
  refine z_iconst hx hb dX1_wayOf_2 ?_
  refine lv_istore_n (lv' := [(3, .int (zi (1))), (2, .int (zi (0))), (0, .ref q), (1, .int (zi (v)))]) hx hb dX1_wayOf_3 rfl hl (by decide) rfl (fun ls hl => ?_)
  have wb := wy_r hw
  have loop : ∀ (d k : Nat), k ≤ nb → nb - k = d → 1 ≤ k → ∀ ls : Array Slot, lv_has ls 4 [(3, .int (zi ((k : Int)))), (2, .int (zi (wy w k))), (0, .ref q), (1, .int (zi (v)))] → W p l e ({ frames := 2, cells := 0, slots := 0, locals := 45 }) s m ([.ref q, .int (zi (v))] : List Value).toArray below meth c s.heap [] 0 0 (MQ below (vp_Si (fun r => r = zi (wy w nb))) ([.ref q, .int (zi (v))] : List Value).toArray s 0 0 (fun _ => False)) (F0 m 4 ls []) := by
    intro d
    induction d with
    | zero =>
      intro k hkn hd h1k ls hl
      refine lv_iload_n hx hb dX1_wayOf_4 rfl (lv_at hl 0 rfl) ?_
      refine lv_aload_n hx hb dX1_wayOf_5 rfl (lv_at hl 2 rfl) ?_
      refine z_get (C := RX1) (T := TX1) (N := 3) hx hb hts hiX1 hown hK hP.1 rfl 0 (by decide) (hts (.fieldLink RX1 9 "HarmoniumDesk$Score" "bars" "I") (by decide +kernel)) rfl rfl dX1_wayOf_6 ?_
      refine z_icmp_ge (tgt := 27) hx hb dX1_wayOf_9 (by decide) (by omega) (by omega) (fun h9 => ?_) (fun h9 => ?_)
      ·
        refine lv_iload_n hx hb dX1_wayOf_27 rfl (lv_at hl 1 rfl) ?_
        exact z_iret hx hb hr hlk dX1_wayOf_28 (by rw [show k = nb by omega])
      · exfalso; omega
    | succ d ih =>
      intro k hkn hd h1k ls hl
      refine lv_iload_n hx hb dX1_wayOf_4 rfl (lv_at hl 0 rfl) ?_
      refine lv_aload_n hx hb dX1_wayOf_5 rfl (lv_at hl 2 rfl) ?_
      refine z_get (C := RX1) (T := TX1) (N := 3) hx hb hts hiX1 hown hK hP.1 rfl 0 (by decide) (hts (.fieldLink RX1 9 "HarmoniumDesk$Score" "bars" "I") (by decide +kernel)) rfl rfl dX1_wayOf_6 ?_
      refine z_icmp_ge (tgt := 27) hx hb dX1_wayOf_9 (by decide) (by omega) (by omega) (fun h9 => ?_) (fun h9 => ?_)
      · exfalso; omega
      ·
        refine lv_iload_n hx hb dX1_wayOf_12 rfl (lv_at hl 1 rfl) ?_
        refine lv_aload_n hx hb dX1_wayOf_13 rfl (lv_at hl 2 rfl) ?_
        refine lv_iload_n hx hb dX1_wayOf_14 rfl (lv_at hl 3 rfl) ?_
        refine lv_iload_n hx hb dX1_wayOf_15 rfl (lv_at hl 0 rfl) ?_
        refine ro_V (rest := [.int (zi (wy w k))]) (As := [.int (zi (v)), .int (zi ((k : Int)))]) ⟨hx, hb, hml, hown, hts⟩ (c_X1_stepTo l g q a b n u lo hu hlo v hv w hw0 hw1 k (by omega) (by omega) ((k : Int)) (by omega)) (cwV 2 hts gX1_wayOf_X1_stepTo rfl rfl rfl (by decide +kernel) ⟨Nat.le_of_ble_eq_true rfl, Nat.le_of_ble_eq_true rfl⟩) (z_recv hK hP.1 rfl) hP hK rfl hl.1 rfl (Nat.le_of_ble_eq_true rfl) dX1_wayOf_16 ⟨Nat.zero_le _, Nat.zero_le _⟩ ?_
        refine z_iadd hx hb dX1_wayOf_19 ?_
        refine z_top (b := wy w (k + 1)) ((wy_s w h1k).symm) ?_
        refine lv_istore_n (lv' := [(2, .int (zi (wy w (k + 1)))), (3, .int (zi ((k : Int)))), (0, .ref q), (1, .int (zi (v)))]) hx hb dX1_wayOf_20 rfl hl (by decide) rfl (fun ls hl => ?_)
        refine z_iinc (b := ((k + 1 : Nat) : Int)) (lv' := [(3, .int (zi (((k + 1 : Nat) : Int)))), (2, .int (zi (wy w (k + 1)))), (0, .ref q), (1, .int (zi (v)))]) hx hb dX1_wayOf_21 hl (k := 1) rfl (by omega) (by decide) rfl (fun ls hl => ?_)
        refine lv_goto (tgt := 4) hx hb dX1_wayOf_24 (by decide) ?_
        exact ih (k + 1) (by omega) (by omega) (by omega) ls (lv_sub hl [0, 1, 2, 3] rfl)
  exact loop (nb - 1) 1 (by omega) (by omega) (by omega) ls (lv_sub hl [0, 1, 2, 3] rfl)
