theorem kc_X0 : ∀ w ∈ u_ws RX0 TX0 2, w ∈ xG := by
  intro w hw
  obtain ⟨j, hj, rfl⟩ := List.mem_map.mp hw
  have hj := List.mem_range.mp hj
  match j, hj with
  | 0, _ => exact (xG_of (i := 103) (by decide +kernel) rfl)
  | 1, _ => exact (xG_of (i := 105) (by decide +kernel) rfl)
  | j + 2, h => exact absurd h (by omega)
theorem ki_X0 : Cond.initialized RX0 ∈ xG := (xG_of (i := 9) (by decide +kernel) rfl)
theorem kn_X0 : Cond.instantiable RX0 2 ∈ xG := (xG_of (i := 97) (by decide +kernel) rfl)
theorem kc_X1 : ∀ w ∈ u_ws RX1 TX1 3, w ∈ xG := by
  intro w hw
  obtain ⟨j, hj, rfl⟩ := List.mem_map.mp hw
  have hj := List.mem_range.mp hj
  match j, hj with
  | 0, _ => exact (xG_of (i := 89) (by decide +kernel) rfl)
  | 1, _ => exact (xG_of (i := 91) (by decide +kernel) rfl)
  | 2, _ => exact (xG_of (i := 93) (by decide +kernel) rfl)
  | j + 3, h => exact absurd h (by omega)
theorem ki_X1 : Cond.initialized RX1 ∈ xG := (xG_of (i := 8) (by decide +kernel) rfl)
theorem kn_X1 : Cond.instantiable RX1 3 ∈ xG := (xG_of (i := 78) (by decide +kernel) rfl)
theorem kc_X2 : ∀ w ∈ u_ws RX2 TX2 4, w ∈ xG := by
  intro w hw
  obtain ⟨j, hj, rfl⟩ := List.mem_map.mp hw
  have hj := List.mem_range.mp hj
  match j, hj with
  | 0, _ => exact (xG_of (i := 41) (by decide +kernel) rfl)
  | 1, _ => exact (xG_of (i := 43) (by decide +kernel) rfl)
  | 2, _ => exact (xG_of (i := 45) (by decide +kernel) rfl)
  | 3, _ => exact (xG_of (i := 47) (by decide +kernel) rfl)
  | j + 4, h => exact absurd h (by omega)
theorem ki_X2 : Cond.initialized RX2 ∈ xG := (xG_of (i := 7) (by decide +kernel) rfl)
theorem kn_X2 : Cond.instantiable RX2 4 ∈ xG := (xG_of (i := 28) (by decide +kernel) rfl)
theorem kc_X3 : ∀ w ∈ u_ws RX3 TX3 8, w ∈ xG := by
  intro w hw
  obtain ⟨j, hj, rfl⟩ := List.mem_map.mp hw
  have hj := List.mem_range.mp hj
  match j, hj with
  | 0, _ => exact (xG_of (i := 60) (by decide +kernel) rfl)
  | 1, _ => exact (xG_of (i := 62) (by decide +kernel) rfl)
  | 2, _ => exact (xG_of (i := 64) (by decide +kernel) rfl)
  | 3, _ => exact (xG_of (i := 66) (by decide +kernel) rfl)
  | 4, _ => exact (xG_of (i := 68) (by decide +kernel) rfl)
  | 5, _ => exact (xG_of (i := 70) (by decide +kernel) rfl)
  | 6, _ => exact (xG_of (i := 72) (by decide +kernel) rfl)
  | 7, _ => exact (xG_of (i := 74) (by decide +kernel) rfl)
  | j + 8, h => exact absurd h (by omega)
theorem ki_X3 : Cond.initialized RX3 ∈ xG := (xG_of (i := 6) (by decide +kernel) rfl)
theorem kn_X3 : Cond.instantiable RX3 8 ∈ xG := (xG_of (i := 21) (by decide +kernel) rfl)
theorem kc_X4 : ∀ w ∈ u_ws RX4 TX4 4, w ∈ xG := by
  intro w hw
  obtain ⟨j, hj, rfl⟩ := List.mem_map.mp hw
  have hj := List.mem_range.mp hj
  match j, hj with
  | 0, _ => exact (xG_of (i := 113) (by decide +kernel) rfl)
  | 1, _ => exact (xG_of (i := 115) (by decide +kernel) rfl)
  | 2, _ => exact (xG_of (i := 117) (by decide +kernel) rfl)
  | 3, _ => exact (xG_of (i := 119) (by decide +kernel) rfl)
  | j + 4, h => exact absurd h (by omega)
theorem ki_X4 : Cond.initialized RX4 ∈ xG := (xG_of (i := 5) (by decide +kernel) rfl)
theorem kn_X4 : Cond.instantiable RX4 4 ∈ xG := (xG_of (i := 13) (by decide +kernel) rfl)
theorem kf_X2_9 : xFd RX2 9 (RX2, TX2, 4) 2 0 := ⟨rfl, by decide, Or.inl (xG_of (i := 33) (by decide +kernel) rfl), kc_X2, ⟨tyX2, tyX2_ok⟩, nmX2⟩
theorem kfw_X2_9 : Cond.fieldLink RX2 9 (TX2 0).1 (TX2 0).2.1 (TX2 0).2.2.1 ∈ xG := (xG_of (i := 33) (by decide +kernel) rfl)
theorem kf_X2_21 : xFd RX2 21 (RX2, TX2, 4) 2 1 := ⟨rfl, by decide, Or.inl (xG_of (i := 34) (by decide +kernel) rfl), kc_X2, ⟨tyX2, tyX2_ok⟩, nmX2⟩
theorem kfw_X2_21 : Cond.fieldLink RX2 21 (TX2 1).1 (TX2 1).2.1 (TX2 1).2.2.1 ∈ xG := (xG_of (i := 34) (by decide +kernel) rfl)
theorem kf_X3_55 : xFd RX3 55 (RX2, TX2, 4) 2 1 := ⟨rfl, by decide, Or.inr ⟨"GesturePidgin", (xGN_of (i := 35) (by decide +kernel) rfl)⟩, kc_X2, ⟨tyX2, tyX2_ok⟩, nmX2⟩
theorem kf_X2_25 : xFd RX2 25 (RX2, TX2, 4) 2 2 := ⟨rfl, by decide, Or.inl (xG_of (i := 36) (by decide +kernel) rfl), kc_X2, ⟨tyX2, tyX2_ok⟩, nmX2⟩
theorem kfw_X2_25 : Cond.fieldLink RX2 25 (TX2 2).1 (TX2 2).2.1 (TX2 2).2.2.1 ∈ xG := (xG_of (i := 36) (by decide +kernel) rfl)
theorem kf_X4_95 : xFd RX4 95 (RX2, TX2, 4) 2 2 := ⟨rfl, by decide, Or.inr ⟨"GesturePidgin", (xGN_of (i := 37) (by decide +kernel) rfl)⟩, kc_X2, ⟨tyX2, tyX2_ok⟩, nmX2⟩
theorem kf_X3_104 : xFd RX3 104 (RX2, TX2, 4) 2 2 := ⟨rfl, by decide, Or.inr ⟨"GesturePidgin", (xGN_of (i := 38) (by decide +kernel) rfl)⟩, kc_X2, ⟨tyX2, tyX2_ok⟩, nmX2⟩
theorem kf_X2_29 : xFd RX2 29 (RX2, TX2, 4) 2 3 := ⟨rfl, by decide, Or.inl (xG_of (i := 39) (by decide +kernel) rfl), kc_X2, ⟨tyX2, tyX2_ok⟩, nmX2⟩
theorem kfw_X2_29 : Cond.fieldLink RX2 29 (TX2 3).1 (TX2 3).2.1 (TX2 3).2.2.1 ∈ xG := (xG_of (i := 39) (by decide +kernel) rfl)
theorem kf_X3_73 : xFd RX3 73 (RX2, TX2, 4) 2 3 := ⟨rfl, by decide, Or.inr ⟨"GesturePidgin", (xGN_of (i := 40) (by decide +kernel) rfl)⟩, kc_X2, ⟨tyX2, tyX2_ok⟩, nmX2⟩
theorem kf_X3_11 : xFd RX3 11 (RX3, TX3, 8) 3 0 := ⟨rfl, by decide, Or.inl (xG_of (i := 51) (by decide +kernel) rfl), kc_X3, ⟨tyX3, tyX3_ok⟩, nmX3⟩
theorem kfw_X3_11 : Cond.fieldLink RX3 11 (TX3 0).1 (TX3 0).2.1 (TX3 0).2.2.1 ∈ xG := (xG_of (i := 51) (by decide +kernel) rfl)
theorem kf_X3_18 : xFd RX3 18 (RX3, TX3, 8) 3 1 := ⟨rfl, by decide, Or.inl (xG_of (i := 52) (by decide +kernel) rfl), kc_X3, ⟨tyX3, tyX3_ok⟩, nmX3⟩
theorem kfw_X3_18 : Cond.fieldLink RX3 18 (TX3 1).1 (TX3 1).2.1 (TX3 1).2.2.1 ∈ xG := (xG_of (i := 52) (by decide +kernel) rfl)
theorem kf_X3_22 : xFd RX3 22 (RX3, TX3, 8) 3 2 := ⟨rfl, by decide, Or.inl (xG_of (i := 53) (by decide +kernel) rfl), kc_X3, ⟨tyX3, tyX3_ok⟩, nmX3⟩
theorem kfw_X3_22 : Cond.fieldLink RX3 22 (TX3 2).1 (TX3 2).2.1 (TX3 2).2.2.1 ∈ xG := (xG_of (i := 53) (by decide +kernel) rfl)
theorem kf_X3_25 : xFd RX3 25 (RX3, TX3, 8) 3 3 := ⟨rfl, by decide, Or.inl (xG_of (i := 54) (by decide +kernel) rfl), kc_X3, ⟨tyX3, tyX3_ok⟩, nmX3⟩
theorem kfw_X3_25 : Cond.fieldLink RX3 25 (TX3 3).1 (TX3 3).2.1 (TX3 3).2.2.1 ∈ xG := (xG_of (i := 54) (by decide +kernel) rfl)
theorem kf_X4_76 : xFd RX4 76 (RX3, TX3, 8) 3 3 := ⟨rfl, by decide, Or.inr ⟨"GesturePidgin", (xGN_of (i := 55) (by decide +kernel) rfl)⟩, kc_X3, ⟨tyX3, tyX3_ok⟩, nmX3⟩
theorem kf_X3_39 : xFd RX3 39 (RX3, TX3, 8) 3 4 := ⟨rfl, by decide, Or.inl (xG_of (i := 56) (by decide +kernel) rfl), kc_X3, ⟨tyX3, tyX3_ok⟩, nmX3⟩
theorem kfw_X3_39 : Cond.fieldLink RX3 39 (TX3 4).1 (TX3 4).2.1 (TX3 4).2.2.1 ∈ xG := (xG_of (i := 56) (by decide +kernel) rfl)
theorem kf_X3_42 : xFd RX3 42 (RX3, TX3, 8) 3 5 := ⟨rfl, by decide, Or.inl (xG_of (i := 57) (by decide +kernel) rfl), kc_X3, ⟨tyX3, tyX3_ok⟩, nmX3⟩
theorem kfw_X3_42 : Cond.fieldLink RX3 42 (TX3 5).1 (TX3 5).2.1 (TX3 5).2.2.1 ∈ xG := (xG_of (i := 57) (by decide +kernel) rfl)
theorem kf_X3_45 : xFd RX3 45 (RX3, TX3, 8) 3 6 := ⟨rfl, by decide, Or.inl (xG_of (i := 58) (by decide +kernel) rfl), kc_X3, ⟨tyX3, tyX3_ok⟩, nmX3⟩
theorem kfw_X3_45 : Cond.fieldLink RX3 45 (TX3 6).1 (TX3 6).2.1 (TX3 6).2.2.1 ∈ xG := (xG_of (i := 58) (by decide +kernel) rfl)
theorem kf_X3_48 : xFd RX3 48 (RX3, TX3, 8) 3 7 := ⟨rfl, by decide, Or.inl (xG_of (i := 59) (by decide +kernel) rfl), kc_X3, ⟨tyX3, tyX3_ok⟩, nmX3⟩
theorem kfw_X3_48 : Cond.fieldLink RX3 48 (TX3 7).1 (TX3 7).2.1 (TX3 7).2.2.1 ∈ xG := (xG_of (i := 59) (by decide +kernel) rfl)
theorem kf_X1_11 : xFd RX1 11 (RX1, TX1, 3) 1 0 := ⟨rfl, by decide, Or.inl (xG_of (i := 86) (by decide +kernel) rfl), kc_X1, ⟨tyX1, tyX1_ok⟩, nmX1⟩
theorem kfw_X1_11 : Cond.fieldLink RX1 11 (TX1 0).1 (TX1 0).2.1 (TX1 0).2.2.1 ∈ xG := (xG_of (i := 86) (by decide +kernel) rfl)
theorem kf_X1_18 : xFd RX1 18 (RX1, TX1, 3) 1 1 := ⟨rfl, by decide, Or.inl (xG_of (i := 87) (by decide +kernel) rfl), kc_X1, ⟨tyX1, tyX1_ok⟩, nmX1⟩
theorem kfw_X1_18 : Cond.fieldLink RX1 18 (TX1 1).1 (TX1 1).2.1 (TX1 1).2.2.1 ∈ xG := (xG_of (i := 87) (by decide +kernel) rfl)
theorem kf_X1_30 : xFd RX1 30 (RX1, TX1, 3) 1 2 := ⟨rfl, by decide, Or.inl (xG_of (i := 88) (by decide +kernel) rfl), kc_X1, ⟨tyX1, tyX1_ok⟩, nmX1⟩
theorem kfw_X1_30 : Cond.fieldLink RX1 30 (TX1 2).1 (TX1 2).2.1 (TX1 2).2.2.1 ∈ xG := (xG_of (i := 88) (by decide +kernel) rfl)
theorem kf_X0_9 : xFd RX0 9 (RX0, TX0, 2) 0 0 := ⟨rfl, by decide, Or.inl (xG_of (i := 102) (by decide +kernel) rfl), kc_X0, ⟨tyX0, tyX0_ok⟩, nmX0⟩
theorem kfw_X0_9 : Cond.fieldLink RX0 9 (TX0 0).1 (TX0 0).2.1 (TX0 0).2.2.1 ∈ xG := (xG_of (i := 102) (by decide +kernel) rfl)
theorem kf_X4_10 : xFd RX4 10 (RX4, TX4, 4) 4 0 := ⟨rfl, by decide, Or.inl (xG_of (i := 109) (by decide +kernel) rfl), kc_X4, ⟨tyX4, tyX4_ok⟩, nmX4⟩
theorem kfw_X4_10 : Cond.fieldLink RX4 10 (TX4 0).1 (TX4 0).2.1 (TX4 0).2.2.1 ∈ xG := (xG_of (i := 109) (by decide +kernel) rfl)
theorem kf_X4_16 : xFd RX4 16 (RX4, TX4, 4) 4 1 := ⟨rfl, by decide, Or.inl (xG_of (i := 110) (by decide +kernel) rfl), kc_X4, ⟨tyX4, tyX4_ok⟩, nmX4⟩
theorem kfw_X4_16 : Cond.fieldLink RX4 16 (TX4 1).1 (TX4 1).2.1 (TX4 1).2.2.1 ∈ xG := (xG_of (i := 110) (by decide +kernel) rfl)
theorem kf_X4_22 : xFd RX4 22 (RX4, TX4, 4) 4 2 := ⟨rfl, by decide, Or.inl (xG_of (i := 111) (by decide +kernel) rfl), kc_X4, ⟨tyX4, tyX4_ok⟩, nmX4⟩
theorem kfw_X4_22 : Cond.fieldLink RX4 22 (TX4 2).1 (TX4 2).2.1 (TX4 2).2.2.1 ∈ xG := (xG_of (i := 111) (by decide +kernel) rfl)
theorem kf_X4_29 : xFd RX4 29 (RX4, TX4, 4) 4 3 := ⟨rfl, by decide, Or.inl (xG_of (i := 112) (by decide +kernel) rfl), kc_X4, ⟨tyX4, tyX4_ok⟩, nmX4⟩
theorem kfw_X4_29 : Cond.fieldLink RX4 29 (TX4 3).1 (TX4 3).2.1 (TX4 3).2.2.1 ∈ xG := (xG_of (i := 112) (by decide +kernel) rfl)
theorem kj_X4_init : xYi yX4_init cX4_init 1 0 := ⟨(xG_of (i := 15) (by decide +kernel) rfl), (xG_of (i := 16) (by decide +kernel) rfl), (xG_of (i := 5) (by decide +kernel) rfl), ⟨by decide +kernel, by decide +kernel, by decide +kernel⟩, rfl⟩
theorem kj_X3_init : xYi yX3_init cX3_init 2 0 := ⟨(xG_of (i := 23) (by decide +kernel) rfl), (xG_of (i := 24) (by decide +kernel) rfl), (xG_of (i := 6) (by decide +kernel) rfl), ⟨by decide +kernel, by decide +kernel, by decide +kernel⟩, rfl⟩
theorem kj_X2_init : xYi yX2_init cX2_init 1 0 := ⟨(xG_of (i := 30) (by decide +kernel) rfl), (xG_of (i := 31) (by decide +kernel) rfl), (xG_of (i := 7) (by decide +kernel) rfl), ⟨by decide +kernel, by decide +kernel, by decide +kernel⟩, rfl⟩
theorem kj_X1_init : xYi yX1_init cX1_init 2 0 := ⟨(xG_of (i := 80) (by decide +kernel) rfl), (xG_of (i := 81) (by decide +kernel) rfl), (xG_of (i := 8) (by decide +kernel) rfl), ⟨by decide +kernel, by decide +kernel, by decide +kernel⟩, rfl⟩
theorem kj_X0_init : xYi yX0_init cX0_init 1 0 := ⟨(xG_of (i := 99) (by decide +kernel) rfl), (xG_of (i := 100) (by decide +kernel) rfl), (xG_of (i := 9) (by decide +kernel) rfl), ⟨by decide +kernel, by decide +kernel, by decide +kernel⟩, rfl⟩
theorem kv_X4_come : xYv yX4_come cX4_come 2 (some .int) 0 4 (RX4, TX4, 4) := ⟨(xG_of (i := 123) (by decide +kernel) rfl), (xG_of (i := 124) (by decide +kernel) rfl), (xG_of (i := 125) (by decide +kernel) rfl), (xG_of (i := 5) (by decide +kernel) rfl), ⟨by decide +kernel, by decide +kernel, by decide +kernel⟩, rfl, rfl⟩
theorem kv_X3_lowestFree : xYv yX3_lowestFree cX3_lowestFree 2 (some .int) 0 3 (RX3, TX3, 8) := ⟨(xG_of (i := 127) (by decide +kernel) rfl), (xG_of (i := 128) (by decide +kernel) rfl), (xG_of (i := 129) (by decide +kernel) rfl), (xG_of (i := 6) (by decide +kernel) rfl), ⟨by decide +kernel, by decide +kernel, by decide +kernel⟩, rfl, rfl⟩
theorem kv_X1_keep : xYv yX1_keep cX1_keep 2 none 1 1 (RX1, TX1, 3) := ⟨(xG_of (i := 131) (by decide +kernel) rfl), (xG_of (i := 132) (by decide +kernel) rfl), (xG_of (i := 133) (by decide +kernel) rfl), (xG_of (i := 8) (by decide +kernel) rfl), ⟨by decide +kernel, by decide +kernel, by decide +kernel⟩, rfl, rfl⟩
theorem ks_X4_isBelow : xYs yX4_isBelow cX4_isBelow 2 (some .boolean) 2 := ⟨(xG_of (i := 135) (by decide +kernel) rfl), (xG_of (i := 136) (by decide +kernel) rfl), (xG_of (i := 5) (by decide +kernel) rfl), ⟨by decide +kernel, by decide +kernel, by decide +kernel⟩⟩
theorem kv_X3_copyFrom : xYv yX3_copyFrom cX3_copyFrom 3 none 1 3 (RX3, TX3, 8) := ⟨(xG_of (i := 138) (by decide +kernel) rfl), (xG_of (i := 139) (by decide +kernel) rfl), (xG_of (i := 140) (by decide +kernel) rfl), (xG_of (i := 6) (by decide +kernel) rfl), ⟨by decide +kernel, by decide +kernel, by decide +kernel⟩, rfl, rfl⟩
theorem kv_X2_copyFrom : xYv yX2_copyFrom cX2_copyFrom 2 none 1 2 (RX2, TX2, 4) := ⟨(xG_of (i := 142) (by decide +kernel) rfl), (xG_of (i := 143) (by decide +kernel) rfl), (xG_of (i := 144) (by decide +kernel) rfl), (xG_of (i := 7) (by decide +kernel) rfl), ⟨by decide +kernel, by decide +kernel, by decide +kernel⟩, rfl, rfl⟩
theorem kv_X3_welcome : xYv yX3_welcome cX3_welcome 2 none 1 3 (RX3, TX3, 8) := ⟨(xG_of (i := 153) (by decide +kernel) rfl), (xG_of (i := 154) (by decide +kernel) rfl), (xG_of (i := 155) (by decide +kernel) rfl), (xG_of (i := 6) (by decide +kernel) rfl), ⟨by decide +kernel, by decide +kernel, by decide +kernel⟩, rfl, rfl⟩
theorem kv_X2_arrive : xYv yX2_arrive cX2_arrive 1 none 0 2 (RX2, TX2, 4) := ⟨(xG_of (i := 158) (by decide +kernel) rfl), (xG_of (i := 159) (by decide +kernel) rfl), (xG_of (i := 160) (by decide +kernel) rfl), (xG_of (i := 7) (by decide +kernel) rfl), ⟨by decide +kernel, by decide +kernel, by decide +kernel⟩, rfl, rfl⟩
theorem kv_X2_beginLife : xYv yX2_beginLife cX2_beginLife 6 none 2 2 (RX2, TX2, 4) := ⟨(xG_of (i := 162) (by decide +kernel) rfl), (xG_of (i := 163) (by decide +kernel) rfl), (xG_of (i := 164) (by decide +kernel) rfl), (xG_of (i := 7) (by decide +kernel) rfl), ⟨by decide +kernel, by decide +kernel, by decide +kernel⟩, rfl, rfl⟩
theorem kv_X2_weightOf : xYv yX2_weightOf cX2_weightOf 3 (some .int) 2 2 (RX2, TX2, 4) := ⟨(xG_of (i := 166) (by decide +kernel) rfl), (xG_of (i := 167) (by decide +kernel) rfl), (xG_of (i := 168) (by decide +kernel) rfl), (xG_of (i := 7) (by decide +kernel) rfl), ⟨by decide +kernel, by decide +kernel, by decide +kernel⟩, rfl, rfl⟩
theorem ks_X4_isMeaning : xYs yX4_isMeaning cX4_isMeaning 1 (some .boolean) 1 := ⟨(xG_of (i := 170) (by decide +kernel) rfl), (xG_of (i := 171) (by decide +kernel) rfl), (xG_of (i := 5) (by decide +kernel) rfl), ⟨by decide +kernel, by decide +kernel, by decide +kernel⟩⟩
theorem ks_X4_isWord : xYs yX4_isWord cX4_isWord 1 (some .boolean) 1 := ⟨(xG_of (i := 173) (by decide +kernel) rfl), (xG_of (i := 174) (by decide +kernel) rfl), (xG_of (i := 5) (by decide +kernel) rfl), ⟨by decide +kernel, by decide +kernel, by decide +kernel⟩⟩
theorem kv_X2_putWeight : xYv yX2_putWeight cX2_putWeight 4 none 3 2 (RX2, TX2, 4) := ⟨(xG_of (i := 176) (by decide +kernel) rfl), (xG_of (i := 177) (by decide +kernel) rfl), (xG_of (i := 178) (by decide +kernel) rfl), (xG_of (i := 7) (by decide +kernel) rfl), ⟨by decide +kernel, by decide +kernel, by decide +kernel⟩, rfl, rfl⟩
theorem kv_X4_go : xYv yX4_go cX4_go 3 (some .int) 1 4 (RX4, TX4, 4) := ⟨(xG_of (i := 184) (by decide +kernel) rfl), (xG_of (i := 185) (by decide +kernel) rfl), (xG_of (i := 186) (by decide +kernel) rfl), (xG_of (i := 5) (by decide +kernel) rfl), ⟨by decide +kernel, by decide +kernel, by decide +kernel⟩, rfl, rfl⟩
theorem kv_X3_find : xYv yX3_find cX3_find 2 (some (.object "GesturePidgin$Speaker")) 1 3 (RX3, TX3, 8) := ⟨(xG_of (i := 188) (by decide +kernel) rfl), (xG_of (i := 189) (by decide +kernel) rfl), (xG_of (i := 190) (by decide +kernel) rfl), (xG_of (i := 6) (by decide +kernel) rfl), ⟨by decide +kernel, by decide +kernel, by decide +kernel⟩, rfl, rfl⟩
theorem kv_X2_leave : xYv yX2_leave cX2_leave 1 none 0 2 (RX2, TX2, 4) := ⟨(xG_of (i := 192) (by decide +kernel) rfl), (xG_of (i := 193) (by decide +kernel) rfl), (xG_of (i := 194) (by decide +kernel) rfl), (xG_of (i := 7) (by decide +kernel) rfl), ⟨by decide +kernel, by decide +kernel, by decide +kernel⟩, rfl, rfl⟩
theorem kv_X3_countSpeakers : xYv yX3_countSpeakers cX3_countSpeakers 3 (some .int) 0 3 (RX3, TX3, 8) := ⟨(xG_of (i := 196) (by decide +kernel) rfl), (xG_of (i := 197) (by decide +kernel) rfl), (xG_of (i := 198) (by decide +kernel) rfl), (xG_of (i := 6) (by decide +kernel) rfl), ⟨by decide +kernel, by decide +kernel, by decide +kernel⟩, rfl, rfl⟩
theorem kv_X4_set : xYv yX4_set cX4_set 4 (some .int) 2 4 (RX4, TX4, 4) := ⟨(xG_of (i := 200) (by decide +kernel) rfl), (xG_of (i := 201) (by decide +kernel) rfl), (xG_of (i := 202) (by decide +kernel) rfl), (xG_of (i := 5) (by decide +kernel) rfl), ⟨by decide +kernel, by decide +kernel, by decide +kernel⟩, rfl, rfl⟩
theorem ks_X4_leastOf : xYs yX4_leastOf cX4_leastOf 1 (some .int) 1 := ⟨(xG_of (i := 205) (by decide +kernel) rfl), (xG_of (i := 206) (by decide +kernel) rfl), (xG_of (i := 5) (by decide +kernel) rfl), ⟨by decide +kernel, by decide +kernel, by decide +kernel⟩⟩
theorem ks_X4_mostOf : xYs yX4_mostOf cX4_mostOf 1 (some .int) 1 := ⟨(xG_of (i := 208) (by decide +kernel) rfl), (xG_of (i := 209) (by decide +kernel) rfl), (xG_of (i := 5) (by decide +kernel) rfl), ⟨by decide +kernel, by decide +kernel, by decide +kernel⟩⟩
theorem kv_X3_settingAt : xYv yX3_settingAt cX3_settingAt 2 (some .int) 1 3 (RX3, TX3, 8) := ⟨(xG_of (i := 211) (by decide +kernel) rfl), (xG_of (i := 212) (by decide +kernel) rfl), (xG_of (i := 213) (by decide +kernel) rfl), (xG_of (i := 6) (by decide +kernel) rfl), ⟨by decide +kernel, by decide +kernel, by decide +kernel⟩, rfl, rfl⟩
theorem kv_X3_putSetting : xYv yX3_putSetting cX3_putSetting 3 none 2 3 (RX3, TX3, 8) := ⟨(xG_of (i := 215) (by decide +kernel) rfl), (xG_of (i := 216) (by decide +kernel) rfl), (xG_of (i := 217) (by decide +kernel) rfl), (xG_of (i := 6) (by decide +kernel) rfl), ⟨by decide +kernel, by decide +kernel, by decide +kernel⟩, rfl, rfl⟩
theorem kv_X4_setSeed : xYv yX4_setSeed cX4_setSeed 3 (some .int) 1 4 (RX4, TX4, 4) := ⟨(xG_of (i := 219) (by decide +kernel) rfl), (xG_of (i := 220) (by decide +kernel) rfl), (xG_of (i := 221) (by decide +kernel) rfl), (xG_of (i := 5) (by decide +kernel) rfl), ⟨by decide +kernel, by decide +kernel, by decide +kernel⟩, rfl, rfl⟩
theorem kv_X4_teach : xYv yX4_teach cX4_teach 7 (some .int) 4 4 (RX4, TX4, 4) := ⟨(xG_of (i := 224) (by decide +kernel) rfl), (xG_of (i := 225) (by decide +kernel) rfl), (xG_of (i := 226) (by decide +kernel) rfl), (xG_of (i := 5) (by decide +kernel) rfl), ⟨by decide +kernel, by decide +kernel, by decide +kernel⟩, rfl, rfl⟩
theorem kv_X4_setAge : xYv yX4_setAge cX4_setAge 5 (some .int) 2 4 (RX4, TX4, 4) := ⟨(xG_of (i := 232) (by decide +kernel) rfl), (xG_of (i := 233) (by decide +kernel) rfl), (xG_of (i := 234) (by decide +kernel) rfl), (xG_of (i := 5) (by decide +kernel) rfl), ⟨by decide +kernel, by decide +kernel, by decide +kernel⟩, rfl, rfl⟩
theorem kv_X4_meet : xYv yX4_meet cX4_meet 6 (some .int) 3 4 (RX4, TX4, 4) := ⟨(xG_of (i := 236) (by decide +kernel) rfl), (xG_of (i := 237) (by decide +kernel) rfl), (xG_of (i := 238) (by decide +kernel) rfl), (xG_of (i := 5) (by decide +kernel) rfl), ⟨by decide +kernel, by decide +kernel, by decide +kernel⟩, rfl, rfl⟩
theorem kv_X3_holdMeeting : xYv yX3_holdMeeting cX3_holdMeeting 7 (some .int) 3 3 (RX3, TX3, 8) := ⟨(xG_of (i := 240) (by decide +kernel) rfl), (xG_of (i := 241) (by decide +kernel) rfl), (xG_of (i := 242) (by decide +kernel) rfl), (xG_of (i := 6) (by decide +kernel) rfl), ⟨by decide +kernel, by decide +kernel, by decide +kernel⟩, rfl, rfl⟩
theorem kv_X2_wordFor : xYv yX2_wordFor cX2_wordFor 6 (some .int) 1 2 (RX2, TX2, 4) := ⟨(xG_of (i := 244) (by decide +kernel) rfl), (xG_of (i := 245) (by decide +kernel) rfl), (xG_of (i := 246) (by decide +kernel) rfl), (xG_of (i := 7) (by decide +kernel) rfl), ⟨by decide +kernel, by decide +kernel, by decide +kernel⟩, rfl, rfl⟩
theorem kv_X3_draw : xYv yX3_draw cX3_draw 2 (some .int) 1 3 (RX3, TX3, 8) := ⟨(xG_of (i := 248) (by decide +kernel) rfl), (xG_of (i := 249) (by decide +kernel) rfl), (xG_of (i := 250) (by decide +kernel) rfl), (xG_of (i := 6) (by decide +kernel) rfl), ⟨by decide +kernel, by decide +kernel, by decide +kernel⟩, rfl, rfl⟩
theorem kv_X2_meaningOf : xYv yX2_meaningOf cX2_meaningOf 6 (some .int) 1 2 (RX2, TX2, 4) := ⟨(xG_of (i := 253) (by decide +kernel) rfl), (xG_of (i := 254) (by decide +kernel) rfl), (xG_of (i := 255) (by decide +kernel) rfl), (xG_of (i := 7) (by decide +kernel) rfl), ⟨by decide +kernel, by decide +kernel, by decide +kernel⟩, rfl, rfl⟩
theorem kv_X2_prefer : xYv yX2_prefer cX2_prefer 6 none 4 2 (RX2, TX2, 4) := ⟨(xG_of (i := 257) (by decide +kernel) rfl), (xG_of (i := 258) (by decide +kernel) rfl), (xG_of (i := 259) (by decide +kernel) rfl), (xG_of (i := 7) (by decide +kernel) rfl), ⟨by decide +kernel, by decide +kernel, by decide +kernel⟩, rfl, rfl⟩
theorem kv_X2_learnsWith : xYv yX2_learnsWith cX2_learnsWith 2 (some .int) 1 2 (RX2, TX2, 4) := ⟨(xG_of (i := 261) (by decide +kernel) rfl), (xG_of (i := 262) (by decide +kernel) rfl), (xG_of (i := 263) (by decide +kernel) rfl), (xG_of (i := 7) (by decide +kernel) rfl), ⟨by decide +kernel, by decide +kernel, by decide +kernel⟩, rfl, rfl⟩
theorem kv_X2_changeWeight : xYv yX2_changeWeight cX2_changeWeight 4 none 3 2 (RX2, TX2, 4) := ⟨(xG_of (i := 265) (by decide +kernel) rfl), (xG_of (i := 266) (by decide +kernel) rfl), (xG_of (i := 267) (by decide +kernel) rfl), (xG_of (i := 7) (by decide +kernel) rfl), ⟨by decide +kernel, by decide +kernel, by decide +kernel⟩, rfl, rfl⟩
theorem kv_X2_forgetOtherMeanings : xYv yX2_forgetOtherMeanings cX2_forgetOtherMeanings 5 none 3 2 (RX2, TX2, 4) := ⟨(xG_of (i := 269) (by decide +kernel) rfl), (xG_of (i := 270) (by decide +kernel) rfl), (xG_of (i := 271) (by decide +kernel) rfl), (xG_of (i := 7) (by decide +kernel) rfl), ⟨by decide +kernel, by decide +kernel, by decide +kernel⟩, rfl, rfl⟩
theorem kv_X4_age : xYv yX4_age cX4_age 2 (some .int) 1 4 (RX4, TX4, 4) := ⟨(xG_of (i := 274) (by decide +kernel) rfl), (xG_of (i := 275) (by decide +kernel) rfl), (xG_of (i := 276) (by decide +kernel) rfl), (xG_of (i := 5) (by decide +kernel) rfl), ⟨by decide +kernel, by decide +kernel, by decide +kernel⟩, rfl, rfl⟩
theorem kv_X3_passYears : xYv yX3_passYears cX3_passYears 4 (some .int) 1 3 (RX3, TX3, 8) := ⟨(xG_of (i := 278) (by decide +kernel) rfl), (xG_of (i := 279) (by decide +kernel) rfl), (xG_of (i := 280) (by decide +kernel) rfl), (xG_of (i := 6) (by decide +kernel) rfl), ⟨by decide +kernel, by decide +kernel, by decide +kernel⟩, rfl, rfl⟩
theorem kv_X3_passYear : xYv yX3_passYear cX3_passYear 3 none 0 3 (RX3, TX3, 8) := ⟨(xG_of (i := 283) (by decide +kernel) rfl), (xG_of (i := 0) (by decide +kernel) rfl), (xG_of (i := 284) (by decide +kernel) rfl), (xG_of (i := 6) (by decide +kernel) rfl), ⟨by decide +kernel, by decide +kernel, by decide +kernel⟩, rfl, rfl⟩
theorem kv_X3_teacherFor : xYv yX3_teacherFor cX3_teacherFor 5 (some (.object "GesturePidgin$Speaker")) 1 3 (RX3, TX3, 8) := ⟨(xG_of (i := 287) (by decide +kernel) rfl), (xG_of (i := 1) (by decide +kernel) rfl), (xG_of (i := 288) (by decide +kernel) rfl), (xG_of (i := 6) (by decide +kernel) rfl), ⟨by decide +kernel, by decide +kernel, by decide +kernel⟩, rfl, rfl⟩
theorem kv_X4_agreement : xYv yX4_agreement cX4_agreement 6 (some .int) 3 4 (RX4, TX4, 4) := ⟨(xG_of (i := 291) (by decide +kernel) rfl), (xG_of (i := 292) (by decide +kernel) rfl), (xG_of (i := 293) (by decide +kernel) rfl), (xG_of (i := 5) (by decide +kernel) rfl), ⟨by decide +kernel, by decide +kernel, by decide +kernel⟩, rfl, rfl⟩
theorem ks_X4_agreementByMeanings : xYs yX4_agreementByMeanings cX4_agreementByMeanings 5 (some .int) 2 := ⟨(xG_of (i := 295) (by decide +kernel) rfl), (xG_of (i := 296) (by decide +kernel) rfl), (xG_of (i := 5) (by decide +kernel) rfl), ⟨by decide +kernel, by decide +kernel, by decide +kernel⟩⟩
theorem ks_X4_agreementByWords : xYs yX4_agreementByWords cX4_agreementByWords 5 (some .int) 2 := ⟨(xG_of (i := 299) (by decide +kernel) rfl), (xG_of (i := 300) (by decide +kernel) rfl), (xG_of (i := 5) (by decide +kernel) rfl), ⟨by decide +kernel, by decide +kernel, by decide +kernel⟩⟩
theorem kv_X4_ifMet : xYv yX4_ifMet cX4_ifMet 8 (some .int) 4 4 (RX4, TX4, 4) := ⟨(xG_of (i := 302) (by decide +kernel) rfl), (xG_of (i := 303) (by decide +kernel) rfl), (xG_of (i := 304) (by decide +kernel) rfl), (xG_of (i := 5) (by decide +kernel) rfl), ⟨by decide +kernel, by decide +kernel, by decide +kernel⟩, rfl, rfl⟩
theorem ks_L_cell : xYs yL_cell cL_cell 2 (some .int) 2 := ⟨(xG_of (i := 307) (by decide +kernel) rfl), (xG_of (i := 308) (by decide +kernel) rfl), (xG_of (i := 4) (by decide +kernel) rfl), ⟨by decide +kernel, by decide +kernel, by decide +kernel⟩⟩
theorem ks_L_low : xYs yL_low cL_low 2 (some .int) 2 := ⟨(xG_of (i := 312) (by decide +kernel) rfl), (xG_of (i := 313) (by decide +kernel) rfl), (xG_of (i := 4) (by decide +kernel) rfl), ⟨by decide +kernel, by decide +kernel, by decide +kernel⟩⟩
theorem ks_L_row : xYs yL_row cL_row 5 (some (.array .int)) 5 := ⟨(xG_of (i := 316) (by decide +kernel) rfl), (xG_of (i := 317) (by decide +kernel) rfl), (xG_of (i := 4) (by decide +kernel) rfl), ⟨by decide +kernel, by decide +kernel, by decide +kernel⟩⟩
theorem ks_L_word : xYs yL_word cL_word 4 (some .int) 2 := ⟨(xG_of (i := 319) (by decide +kernel) rfl), (xG_of (i := 320) (by decide +kernel) rfl), (xG_of (i := 4) (by decide +kernel) rfl), ⟨by decide +kernel, by decide +kernel, by decide +kernel⟩⟩
theorem ks_L_meet : xYs yL_meet cL_meet 9 (some .int) 6 := ⟨(xG_of (i := 322) (by decide +kernel) rfl), (xG_of (i := 323) (by decide +kernel) rfl), (xG_of (i := 4) (by decide +kernel) rfl), ⟨by decide +kernel, by decide +kernel, by decide +kernel⟩⟩
theorem ks_L_heard : xYs yL_heard cL_heard 4 (some .int) 2 := ⟨(xG_of (i := 325) (by decide +kernel) rfl), (xG_of (i := 326) (by decide +kernel) rfl), (xG_of (i := 4) (by decide +kernel) rfl), ⟨by decide +kernel, by decide +kernel, by decide +kernel⟩⟩
theorem ks_L_draw : xYs yL_draw cL_draw 2 (some .int) 2 := ⟨(xG_of (i := 328) (by decide +kernel) rfl), (xG_of (i := 329) (by decide +kernel) rfl), (xG_of (i := 4) (by decide +kernel) rfl), ⟨by decide +kernel, by decide +kernel, by decide +kernel⟩⟩
theorem ks_L_learns : xYs yL_learns cL_learns 3 (some .int) 2 := ⟨(xG_of (i := 334) (by decide +kernel) rfl), (xG_of (i := 335) (by decide +kernel) rfl), (xG_of (i := 4) (by decide +kernel) rfl), ⟨by decide +kernel, by decide +kernel, by decide +kernel⟩⟩
theorem ks_L_add : xYs yL_add cL_add 5 none 4 := ⟨(xG_of (i := 337) (by decide +kernel) rfl), (xG_of (i := 338) (by decide +kernel) rfl), (xG_of (i := 4) (by decide +kernel) rfl), ⟨by decide +kernel, by decide +kernel, by decide +kernel⟩⟩
set_option maxRecDepth 100000 in
theorem ks_L_same : xYs yL_same cL_same 21 (some .boolean) 6 := ⟨(xG_of (i := 340) (by decide +kernel) rfl), (xG_of (i := 341) rfl rfl), (xG_of (i := 4) (by decide +kernel) rfl), ⟨by decide +kernel, by decide +kernel, by decide +kernel⟩⟩
theorem kv_X4_speaker : xYv yX4_speaker cX4_speaker 4 (some .int) 2 4 (RX4, TX4, 4) := ⟨(xG_of (i := 343) (by decide +kernel) rfl), (xG_of (i := 344) (by decide +kernel) rfl), (xG_of (i := 345) (by decide +kernel) rfl), (xG_of (i := 5) (by decide +kernel) rfl), ⟨by decide +kernel, by decide +kernel, by decide +kernel⟩, rfl, rfl⟩
theorem kv_X3_numberOfSpeaker : xYv yX3_numberOfSpeaker cX3_numberOfSpeaker 3 (some .int) 2 3 (RX3, TX3, 8) := ⟨(xG_of (i := 347) (by decide +kernel) rfl), (xG_of (i := 348) (by decide +kernel) rfl), (xG_of (i := 349) (by decide +kernel) rfl), (xG_of (i := 6) (by decide +kernel) rfl), ⟨by decide +kernel, by decide +kernel, by decide +kernel⟩, rfl, rfl⟩
theorem kv_X2_countWords : xYv yX2_countWords cX2_countWords 3 (some .int) 0 2 (RX2, TX2, 4) := ⟨(xG_of (i := 352) (by decide +kernel) rfl), (xG_of (i := 353) (by decide +kernel) rfl), (xG_of (i := 354) (by decide +kernel) rfl), (xG_of (i := 7) (by decide +kernel) rfl), ⟨by decide +kernel, by decide +kernel, by decide +kernel⟩, rfl, rfl⟩
theorem kv_X2_countConfusions : xYv yX2_countConfusions cX2_countConfusions 5 (some .int) 0 2 (RX2, TX2, 4) := ⟨(xG_of (i := 357) (by decide +kernel) rfl), (xG_of (i := 358) (by decide +kernel) rfl), (xG_of (i := 359) (by decide +kernel) rfl), (xG_of (i := 7) (by decide +kernel) rfl), ⟨by decide +kernel, by decide +kernel, by decide +kernel⟩, rfl, rfl⟩
theorem kv_X4_wordOf : xYv yX4_wordOf cX4_wordOf 4 (some .int) 2 4 (RX4, TX4, 4) := ⟨(xG_of (i := 361) (by decide +kernel) rfl), (xG_of (i := 362) (by decide +kernel) rfl), (xG_of (i := 363) (by decide +kernel) rfl), (xG_of (i := 5) (by decide +kernel) rfl), ⟨by decide +kernel, by decide +kernel, by decide +kernel⟩, rfl, rfl⟩
theorem kv_X4_weight : xYv yX4_weight cX4_weight 5 (some .int) 3 4 (RX4, TX4, 4) := ⟨(xG_of (i := 365) (by decide +kernel) rfl), (xG_of (i := 366) (by decide +kernel) rfl), (xG_of (i := 367) (by decide +kernel) rfl), (xG_of (i := 5) (by decide +kernel) rfl), ⟨by decide +kernel, by decide +kernel, by decide +kernel⟩, rfl, rfl⟩
theorem kv_X4_hears : xYv yX4_hears cX4_hears 4 (some .int) 2 4 (RX4, TX4, 4) := ⟨(xG_of (i := 369) (by decide +kernel) rfl), (xG_of (i := 370) (by decide +kernel) rfl), (xG_of (i := 371) (by decide +kernel) rfl), (xG_of (i := 5) (by decide +kernel) rfl), ⟨by decide +kernel, by decide +kernel, by decide +kernel⟩, rfl, rfl⟩
theorem kv_X4_understanding : xYv yX4_understanding cX4_understanding 5 (some .int) 2 4 (RX4, TX4, 4) := ⟨(xG_of (i := 374) (by decide +kernel) rfl), (xG_of (i := 375) (by decide +kernel) rfl), (xG_of (i := 376) (by decide +kernel) rfl), (xG_of (i := 5) (by decide +kernel) rfl), ⟨by decide +kernel, by decide +kernel, by decide +kernel⟩, rfl, rfl⟩
theorem ks_X4_understandingOf : xYs yX4_understandingOf cX4_understandingOf 5 (some .int) 2 := ⟨(xG_of (i := 378) (by decide +kernel) rfl), (xG_of (i := 379) (by decide +kernel) rfl), (xG_of (i := 5) (by decide +kernel) rfl), ⟨by decide +kernel, by decide +kernel, by decide +kernel⟩⟩
theorem kv_X4_bestSayer : xYv yX4_bestSayer cX4_bestSayer 8 (some .int) 1 4 (RX4, TX4, 4) := ⟨(xG_of (i := 381) (by decide +kernel) rfl), (xG_of (i := 382) (by decide +kernel) rfl), (xG_of (i := 383) (by decide +kernel) rfl), (xG_of (i := 5) (by decide +kernel) rfl), ⟨by decide +kernel, by decide +kernel, by decide +kernel⟩, rfl, rfl⟩
theorem kv_X4_common : xYv yX4_common cX4_common 2 (some .int) 1 4 (RX4, TX4, 4) := ⟨(xG_of (i := 385) (by decide +kernel) rfl), (xG_of (i := 386) (by decide +kernel) rfl), (xG_of (i := 387) (by decide +kernel) rfl), (xG_of (i := 5) (by decide +kernel) rfl), ⟨by decide +kernel, by decide +kernel, by decide +kernel⟩, rfl, rfl⟩
theorem kv_X3_commonWord : xYv yX3_commonWord cX3_commonWord 5 (some .int) 1 3 (RX3, TX3, 8) := ⟨(xG_of (i := 389) (by decide +kernel) rfl), (xG_of (i := 390) (by decide +kernel) rfl), (xG_of (i := 391) (by decide +kernel) rfl), (xG_of (i := 6) (by decide +kernel) rfl), ⟨by decide +kernel, by decide +kernel, by decide +kernel⟩, rfl, rfl⟩
theorem kv_X3_countUsers : xYv yX3_countUsers cX3_countUsers 4 none 1 3 (RX3, TX3, 8) := ⟨(xG_of (i := 394) (by decide +kernel) rfl), (xG_of (i := 2) (by decide +kernel) rfl), (xG_of (i := 395) (by decide +kernel) rfl), (xG_of (i := 6) (by decide +kernel) rfl), ⟨by decide +kernel, by decide +kernel, by decide +kernel⟩, rfl, rfl⟩
theorem kv_X4_count : xYv yX4_count cX4_count 2 (some .int) 1 4 (RX4, TX4, 4) := ⟨(xG_of (i := 398) (by decide +kernel) rfl), (xG_of (i := 399) (by decide +kernel) rfl), (xG_of (i := 400) (by decide +kernel) rfl), (xG_of (i := 5) (by decide +kernel) rfl), ⟨by decide +kernel, by decide +kernel, by decide +kernel⟩, rfl, rfl⟩
theorem kv_X3_numberOf : xYv yX3_numberOf cX3_numberOf 2 (some .int) 1 3 (RX3, TX3, 8) := ⟨(xG_of (i := 402) (by decide +kernel) rfl), (xG_of (i := 403) (by decide +kernel) rfl), (xG_of (i := 404) (by decide +kernel) rfl), (xG_of (i := 6) (by decide +kernel) rfl), ⟨by decide +kernel, by decide +kernel, by decide +kernel⟩, rfl, rfl⟩
theorem kv_X3_sumOfWeights : xYv yX3_sumOfWeights cX3_sumOfWeights 3 (some .int) 0 3 (RX3, TX3, 8) := ⟨(xG_of (i := 408) (by decide +kernel) rfl), (xG_of (i := 3) (by decide +kernel) rfl), (xG_of (i := 409) (by decide +kernel) rfl), (xG_of (i := 6) (by decide +kernel) rfl), ⟨by decide +kernel, by decide +kernel, by decide +kernel⟩, rfl, rfl⟩
theorem kv_X2_sumOfWeights : xYv yX2_sumOfWeights cX2_sumOfWeights 6 (some .int) 0 2 (RX2, TX2, 4) := ⟨(xG_of (i := 411) (by decide +kernel) rfl), (xG_of (i := 412) (by decide +kernel) rfl), (xG_of (i := 413) (by decide +kernel) rfl), (xG_of (i := 7) (by decide +kernel) rfl), ⟨by decide +kernel, by decide +kernel, by decide +kernel⟩, rfl, rfl⟩
theorem kv_X4_setting : xYv yX4_setting cX4_setting 2 (some .int) 1 4 (RX4, TX4, 4) := ⟨(xG_of (i := 415) (by decide +kernel) rfl), (xG_of (i := 416) (by decide +kernel) rfl), (xG_of (i := 417) (by decide +kernel) rfl), (xG_of (i := 5) (by decide +kernel) rfl), ⟨by decide +kernel, by decide +kernel, by decide +kernel⟩, rfl, rfl⟩
theorem kcl_L_40 : Cond.classLink RL 40 RX4 ∈ xG := (xG_of (i := 12) (by decide +kernel) rfl)
theorem kl_L_74 : Cond.methodLink RL 74 yX4_init ∈ xG := (xG_of (i := 14) (by decide +kernel) rfl)
theorem kl_X4_1 : Cond.methodLink RX4 1 objectInit ∈ xG := (xG_of (i := 17) (by decide +kernel) rfl)
theorem kcl_X4_7 : Cond.classLink RX4 7 RX3 ∈ xG := (xG_of (i := 20) (by decide +kernel) rfl)
theorem kl_X4_9 : Cond.methodLink RX4 9 yX3_init ∈ xG := (xG_of (i := 22) (by decide +kernel) rfl)
theorem kl_X3_3 : Cond.methodLink RX3 3 objectInit ∈ xG := (xG_of (i := 25) (by decide +kernel) rfl)
theorem kcl_X3_9 : Cond.classLink RX3 9 RX2 ∈ xG := (xG_of (i := 26) (by decide +kernel) rfl)
theorem ka_X2 : Cond.arrayOver (.object RX2) ∈ xGN := (xGN_of (i := 27) (by decide +kernel) rfl)
theorem kl_X3_17 : Cond.methodLink RX3 17 yX2_init ∈ xG := (xG_of (i := 29) (by decide +kernel) rfl)
theorem kl_X2_3 : Cond.methodLink RX2 3 objectInit ∈ xG := (xG_of (i := 32) (by decide +kernel) rfl)
theorem ka_int : Cond.arrayClass .int ∈ xG := (xG_of (i := 50) (by decide +kernel) rfl)
theorem kcl_X4_19 : Cond.classLink RX4 19 RX1 ∈ xG := (xG_of (i := 77) (by decide +kernel) rfl)
theorem kl_X4_21 : Cond.methodLink RX4 21 yX1_init ∈ xG := (xG_of (i := 79) (by decide +kernel) rfl)
theorem kl_X1_3 : Cond.methodLink RX1 3 objectInit ∈ xG := (xG_of (i := 82) (by decide +kernel) rfl)
theorem kcl_X1_9 : Cond.classLink RX1 9 RX3 ∈ xG := (xG_of (i := 83) (by decide +kernel) rfl)
theorem ka_X3 : Cond.arrayOver (.object RX3) ∈ xGN := (xGN_of (i := 84) (by decide +kernel) rfl)
theorem kl_X1_17 : Cond.methodLink RX1 17 yX3_init ∈ xG := (xG_of (i := 85) (by decide +kernel) rfl)
theorem kcl_X4_26 : Cond.classLink RX4 26 RX0 ∈ xG := (xG_of (i := 96) (by decide +kernel) rfl)
theorem kl_X4_28 : Cond.methodLink RX4 28 yX0_init ∈ xG := (xG_of (i := 98) (by decide +kernel) rfl)
theorem kl_X0_3 : Cond.methodLink RX0 3 objectInit ∈ xG := (xG_of (i := 101) (by decide +kernel) rfl)
theorem ka_char : Cond.arrayClass .char ∈ xG := (xG_of (i := 108) (by decide +kernel) rfl)
theorem kl_L_82 : xLk RL 82 yX4_come := Or.inl (xG_of (i := 122) (by decide +kernel) rfl)
theorem kl_X4_33 : xLk RX4 33 yX3_lowestFree := Or.inl (xG_of (i := 126) (by decide +kernel) rfl)
theorem kl_X4_37 : xLk RX4 37 yX1_keep := Or.inl (xG_of (i := 130) (by decide +kernel) rfl)
theorem kl_X1_22 : xLk RX1 22 yX4_isBelow := Or.inr ⟨"GesturePidgin", (xGN_of (i := 134) (by decide +kernel) rfl)⟩
theorem kl_X1_26 : xLk RX1 26 yX3_copyFrom := Or.inl (xG_of (i := 137) (by decide +kernel) rfl)
theorem kl_X3_29 : xLk RX3 29 yX2_copyFrom := Or.inl (xG_of (i := 141) (by decide +kernel) rfl)
theorem kl_X2_15 : Cond.methodLink RX2 15 arraycopyName ∈ xG := (xG_of (i := 145) (by decide +kernel) rfl)
theorem kl_X3_33 : Cond.methodLink RX3 33 arraycopyName ∈ xG := (xG_of (i := 148) (by decide +kernel) rfl)
theorem kl_X1_33 : Cond.methodLink RX1 33 Lib.Math.min.name ∈ xG := (xG_of (i := 149) (by decide +kernel) rfl)
theorem kl_X4_41 : xLk RX4 41 yX3_welcome := Or.inl (xG_of (i := 152) (by decide +kernel) rfl)
theorem kl_X3_51 : xLk RX3 51 yX4_isBelow := Or.inr ⟨"GesturePidgin", (xGN_of (i := 156) (by decide +kernel) rfl)⟩
theorem kl_X3_59 : xLk RX3 59 yX2_arrive := Or.inl (xG_of (i := 157) (by decide +kernel) rfl)
theorem kl_X2_32 : xLk RX2 32 yX2_beginLife := Or.inl (xG_of (i := 161) (by decide +kernel) rfl)
theorem kl_X2_36 : xLk RX2 36 yX2_weightOf := Or.inl (xG_of (i := 165) (by decide +kernel) rfl)
theorem kl_X2_44 : xLk RX2 44 yX4_isMeaning := Or.inr ⟨"GesturePidgin", (xGN_of (i := 169) (by decide +kernel) rfl)⟩
theorem kl_X2_48 : xLk RX2 48 yX4_isWord := Or.inr ⟨"GesturePidgin", (xGN_of (i := 172) (by decide +kernel) rfl)⟩
theorem kl_X2_40 : xLk RX2 40 yX2_putWeight := Or.inl (xG_of (i := 175) (by decide +kernel) rfl)
theorem kl_X2_51 : Cond.methodLink RX2 51 Lib.Math.min.name ∈ xG := (xG_of (i := 179) (by decide +kernel) rfl)
theorem kl_X2_56 : Cond.methodLink RX2 56 Lib.Math.max.name ∈ xG := (xG_of (i := 180) (by decide +kernel) rfl)
theorem kl_L_86 : xLk RL 86 yX4_go := Or.inl (xG_of (i := 183) (by decide +kernel) rfl)
theorem kl_X4_45 : xLk RX4 45 yX3_find := Or.inl (xG_of (i := 187) (by decide +kernel) rfl)
theorem kl_X4_49 : xLk RX4 49 yX2_leave := Or.inl (xG_of (i := 191) (by decide +kernel) rfl)
theorem kl_X4_54 : xLk RX4 54 yX3_countSpeakers := Or.inl (xG_of (i := 195) (by decide +kernel) rfl)
theorem kl_L_89 : xLk RL 89 yX4_set := Or.inl (xG_of (i := 199) (by decide +kernel) rfl)
theorem kl_X4_57 : xLk RX4 57 yX4_isBelow := Or.inl (xG_of (i := 203) (by decide +kernel) rfl)
theorem kl_X4_61 : xLk RX4 61 yX4_leastOf := Or.inl (xG_of (i := 204) (by decide +kernel) rfl)
theorem kl_X4_65 : xLk RX4 65 yX4_mostOf := Or.inl (xG_of (i := 207) (by decide +kernel) rfl)
theorem kl_X4_68 : xLk RX4 68 yX3_settingAt := Or.inl (xG_of (i := 210) (by decide +kernel) rfl)
theorem kl_X4_71 : xLk RX4 71 yX3_putSetting := Or.inl (xG_of (i := 214) (by decide +kernel) rfl)
theorem kl_L_93 : xLk RL 93 yX4_setSeed := Or.inl (xG_of (i := 218) (by decide +kernel) rfl)
theorem kk_X4_75 : Cond.constant RX4 75 (65535) ∈ xG := (xG_of (i := 222) (by decide +kernel) rfl)
theorem kl_L_99 : xLk RL 99 yX4_teach := Or.inl (xG_of (i := 223) (by decide +kernel) rfl)
theorem kl_X4_80 : xLk RX4 80 yX4_isMeaning := Or.inl (xG_of (i := 227) (by decide +kernel) rfl)
theorem kl_X4_84 : xLk RX4 84 yX4_isWord := Or.inl (xG_of (i := 228) (by decide +kernel) rfl)
theorem kl_X4_87 : xLk RX4 87 yX2_weightOf := Or.inl (xG_of (i := 229) (by decide +kernel) rfl)
theorem kl_X4_91 : xLk RX4 91 yX2_putWeight := Or.inl (xG_of (i := 230) (by decide +kernel) rfl)
theorem kl_L_96 : xLk RL 96 yX4_setAge := Or.inl (xG_of (i := 231) (by decide +kernel) rfl)
theorem kl_L_110 : xLk RL 110 yX4_meet := Or.inl (xG_of (i := 235) (by decide +kernel) rfl)
theorem kl_X4_98 : xLk RX4 98 yX3_holdMeeting := Or.inl (xG_of (i := 239) (by decide +kernel) rfl)
theorem kl_X3_63 : xLk RX3 63 yX2_wordFor := Or.inl (xG_of (i := 243) (by decide +kernel) rfl)
theorem kl_X3_67 : xLk RX3 67 yX3_draw := Or.inl (xG_of (i := 247) (by decide +kernel) rfl)
theorem kk_X3_62 : Cond.constant RX3 62 (65536) ∈ xG := (xG_of (i := 251) (by decide +kernel) rfl)
theorem kl_X3_70 : xLk RX3 70 yX2_meaningOf := Or.inl (xG_of (i := 252) (by decide +kernel) rfl)
theorem kl_X3_74 : xLk RX3 74 yX2_prefer := Or.inl (xG_of (i := 256) (by decide +kernel) rfl)
theorem kl_X2_59 : xLk RX2 59 yX2_learnsWith := Or.inl (xG_of (i := 260) (by decide +kernel) rfl)
theorem kl_X2_63 : xLk RX2 63 yX2_changeWeight := Or.inl (xG_of (i := 264) (by decide +kernel) rfl)
theorem kl_X3_78 : xLk RX3 78 yX2_forgetOtherMeanings := Or.inl (xG_of (i := 268) (by decide +kernel) rfl)
theorem kl_X3_82 : xLk RX3 82 yX2_changeWeight := Or.inl (xG_of (i := 272) (by decide +kernel) rfl)
theorem kl_L_112 : xLk RL 112 yX4_age := Or.inl (xG_of (i := 273) (by decide +kernel) rfl)
theorem kl_X4_108 : xLk RX4 108 yX3_passYears := Or.inl (xG_of (i := 277) (by decide +kernel) rfl)
theorem kl_X3_101 : xLk RX3 101 yX3_passYear := Or.inl (xG_of (i := 281) (by decide +kernel) rfl)
theorem kl_X3_105 : xLk RX3 105 yX3_teacherFor := Or.inl (xG_of (i := 285) (by decide +kernel) rfl)
theorem kl_X3_108 : xLk RX3 108 yX2_beginLife := Or.inl (xG_of (i := 289) (by decide +kernel) rfl)
theorem kl_L_55 : xLk RL 55 yX4_agreement := Or.inl (xG_of (i := 290) (by decide +kernel) rfl)
theorem kl_X4_130 : xLk RX4 130 yX4_agreementByMeanings := Or.inl (xG_of (i := 294) (by decide +kernel) rfl)
theorem kl_X4_118 : xLk RX4 118 yX2_wordFor := Or.inl (xG_of (i := 297) (by decide +kernel) rfl)
theorem kl_X4_134 : xLk RX4 134 yX4_agreementByWords := Or.inl (xG_of (i := 298) (by decide +kernel) rfl)
theorem kl_L_103 : xLk RL 103 yX4_ifMet := Or.inl (xG_of (i := 301) (by decide +kernel) rfl)
theorem kl_X4_143 : xLk RX4 143 yX3_copyFrom := Or.inl (xG_of (i := 305) (by decide +kernel) rfl)
theorem kl_L_75 : xLk RL 75 yL_cell := Or.inl (xG_of (i := 306) (by decide +kernel) rfl)
theorem kk_L_7 : Cond.constant RL 7 (1000308051) ∈ xG := (xG_of (i := 309) (by decide +kernel) rfl)
theorem kk_L_8 : Cond.constant RL 8 (751363239) ∈ xG := (xG_of (i := 310) (by decide +kernel) rfl)
theorem kl_L_79 : xLk RL 79 yL_low := Or.inl (xG_of (i := 311) (by decide +kernel) rfl)
theorem kk_L_9 : Cond.constant RL 9 (2147483647) ∈ xG := (xG_of (i := 314) (by decide +kernel) rfl)
theorem kl_L_35 : xLk RL 35 yL_row := Or.inl (xG_of (i := 315) (by decide +kernel) rfl)
theorem kl_L_16 : xLk RL 16 yL_word := Or.inl (xG_of (i := 318) (by decide +kernel) rfl)
theorem kl_L_106 : xLk RL 106 yL_meet := Or.inl (xG_of (i := 321) (by decide +kernel) rfl)
theorem kl_L_22 : xLk RL 22 yL_heard := Or.inl (xG_of (i := 324) (by decide +kernel) rfl)
theorem kl_L_25 : xLk RL 25 yL_draw := Or.inl (xG_of (i := 327) (by decide +kernel) rfl)
theorem kk_L_10 : Cond.constantLong RL 10 (25173) ∈ xG := (xG_of (i := 330) (by decide +kernel) rfl)
theorem kk_L_12 : Cond.constantLong RL 12 (13849) ∈ xG := (xG_of (i := 331) (by decide +kernel) rfl)
theorem kk_L_14 : Cond.constantLong RL 14 (65535) ∈ xG := (xG_of (i := 332) (by decide +kernel) rfl)
theorem kl_L_28 : xLk RL 28 yL_learns := Or.inl (xG_of (i := 333) (by decide +kernel) rfl)
theorem kl_L_31 : xLk RL 31 yL_add := Or.inl (xG_of (i := 336) (by decide +kernel) rfl)
theorem kl_L_115 : xLk RL 115 yL_same := Or.inl (xG_of (i := 339) (by decide +kernel) rfl)
theorem kl_L_39 : xLk RL 39 yX4_speaker := Or.inl (xG_of (i := 342) (by decide +kernel) rfl)
theorem kl_X4_114 : xLk RX4 114 yX3_numberOfSpeaker := Or.inl (xG_of (i := 346) (by decide +kernel) rfl)
theorem kl_X3_115 : xLk RX3 115 yX2_learnsWith := Or.inl (xG_of (i := 350) (by decide +kernel) rfl)
theorem kl_X3_118 : xLk RX3 118 yX2_countWords := Or.inl (xG_of (i := 351) (by decide +kernel) rfl)
theorem kl_X2_66 : xLk RX2 66 yX2_wordFor := Or.inl (xG_of (i := 355) (by decide +kernel) rfl)
theorem kl_X3_121 : xLk RX3 121 yX2_countConfusions := Or.inl (xG_of (i := 356) (by decide +kernel) rfl)
theorem kl_L_45 : xLk RL 45 yX4_wordOf := Or.inl (xG_of (i := 360) (by decide +kernel) rfl)
theorem kl_L_48 : xLk RL 48 yX4_weight := Or.inl (xG_of (i := 364) (by decide +kernel) rfl)
theorem kl_L_52 : xLk RL 52 yX4_hears := Or.inl (xG_of (i := 368) (by decide +kernel) rfl)
theorem kl_X4_121 : xLk RX4 121 yX2_meaningOf := Or.inl (xG_of (i := 372) (by decide +kernel) rfl)
theorem kl_L_58 : xLk RL 58 yX4_understanding := Or.inl (xG_of (i := 373) (by decide +kernel) rfl)
theorem kl_X4_137 : xLk RX4 137 yX4_understandingOf := Or.inl (xG_of (i := 377) (by decide +kernel) rfl)
theorem kl_L_61 : xLk RL 61 yX4_bestSayer := Or.inl (xG_of (i := 380) (by decide +kernel) rfl)
theorem kl_L_65 : xLk RL 65 yX4_common := Or.inl (xG_of (i := 384) (by decide +kernel) rfl)
theorem kl_X4_140 : xLk RX4 140 yX3_commonWord := Or.inl (xG_of (i := 388) (by decide +kernel) rfl)
theorem kl_X3_125 : xLk RX3 125 yX3_countUsers := Or.inl (xG_of (i := 392) (by decide +kernel) rfl)
theorem kl_X3_129 : xLk RX3 129 yX4_isWord := Or.inr ⟨"GesturePidgin", (xGN_of (i := 396) (by decide +kernel) rfl)⟩
theorem kl_L_68 : xLk RL 68 yX4_count := Or.inl (xG_of (i := 397) (by decide +kernel) rfl)
theorem kl_X4_111 : xLk RX4 111 yX3_numberOf := Or.inl (xG_of (i := 401) (by decide +kernel) rfl)
theorem kl_X3_85 : xLk RX3 85 yX3_countSpeakers := Or.inl (xG_of (i := 405) (by decide +kernel) rfl)
theorem kl_X3_112 : xLk RX3 112 yX3_sumOfWeights := Or.inl (xG_of (i := 406) (by decide +kernel) rfl)
theorem kl_X3_124 : xLk RX3 124 yX2_sumOfWeights := Or.inl (xG_of (i := 410) (by decide +kernel) rfl)
theorem kl_L_71 : xLk RL 71 yX4_setting := Or.inl (xG_of (i := 414) (by decide +kernel) rfl)
theorem kk_L_92 : Cond.constant RL 92 (65536) ∈ xG := (xG_of (i := 418) (by decide +kernel) rfl)
theorem ki_sys : Cond.initialized "java/lang/System" ∈ xG := (xG_of (i := 10) (by decide +kernel) rfl)
theorem ki_math : Cond.initialized "java/lang/Math" ∈ xG := (xG_of (i := 11) (by decide +kernel) rfl)
theorem kz_native : Cond.native arraycopyName ∈ xG := (xG_of (i := 147) (by decide +kernel) rfl)
theorem kz_static : Cond.static arraycopyName ∈ xG := (xG_of (i := 146) (by decide +kernel) rfl)
theorem kz_smax : Cond.static Lib.Math.max.name ∈ xG := (xG_of (i := 181) (by decide +kernel) rfl)
theorem kz_cmax : Cond.code Lib.Math.max.name Lib.Math.max.code 2 (some .int) ∈ xG := (xG_of (i := 182) (by decide +kernel) rfl)
theorem kz_smin : Cond.static Lib.Math.min.name ∈ xG := (xG_of (i := 150) (by decide +kernel) rfl)
theorem kz_cmin : Cond.code Lib.Math.min.name Lib.Math.min.code 2 (some .int) ∈ xG := (xG_of (i := 151) (by decide +kernel) rfl)
theorem kz_oi : Cond.instanceMethod objectInit ∈ xG := (xG_of (i := 18) (by decide +kernel) rfl)
theorem kz_oc : Cond.code objectInit ⟨#[0xb1]⟩ 1 none ∈ xG := (xG_of (i := 19) (by decide +kernel) rfl)
