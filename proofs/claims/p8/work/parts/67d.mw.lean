set_option maxHeartbeats 8000000 in
set_option maxRecDepth 100000 in
theorem mw_end (l : Launch) (G : va_G) (cI cJ cB cZ : ClassId) {a : Nat} {tm : Int} {w : va_W} (h : MJ cI cJ cB cZ a tm w) (b1 : Int32) : Con l G (TY cI cJ cB cZ) yX10_end cX10_end 2 (some .int) ({ frames := 0, cells := 0, slots := 0, locals := 0 } : Room) [.ref a, .int b1] w (QI G (TY cI cJ cB cZ) (fun (r : Int32) (u : va_W) => MJ cI cJ cB cZ a tm u) (fun u => u)) := by
  obtain ⟨ad, vv, bk, wl, ff, fj, ⟨hB, hbk, hF, hr_5, hr_6, hr_7, hr_8, hr_9, hr_10, hr_11, hr_12, hr_13, hr_14, hr_15, hr_16, hGb⟩, rfl, rfl, rfl⟩ := h
  have e_bk : bk.toInt = 0 ∨ bk.toInt = 1 := by omega
  obtain rfl | rfl : bk = 0 ∨ bk = 1 := by simp only [fa_eq]; exact e_bk
  · skip
    have l_b : (0 : Int32).toInt = 0 := rfl
    have hG := hGb.1 rfl
    have as1 : 1 ≤ (vv 79).toInt ∧ (vv 79).toInt ≤ 40 := by have q_ : 0 ≤ (vv 79).toInt ∧ (vv 79).toInt ≤ 40 := hB 79; omega
    have as2 : 1 ≤ (vv 80).toInt ∧ (vv 80).toInt ≤ 40 := by have q_ : 0 ≤ (vv 80).toInt ∧ (vv 80).toInt ≤ 40 := hB 80; omega
    have as3 : 1 ≤ (vv 83).toInt ∧ (vv 83).toInt ≤ 40 := by have q_ : 0 ≤ (vv 83).toInt ∧ (vv 83).toInt ≤ 40 := hB 83; omega
    have as4 : 1 ≤ (vv 84).toInt ∧ (vv 84).toInt ≤ 40 := by have q_ : 0 ≤ (vv 84).toInt ∧ (vv 84).toInt ≤ 40 := hB 84; omega
    have as5 : 1 ≤ (vv 75).toInt ∧ (vv 75).toInt ≤ 110 := by have q_ : 0 ≤ (vv 75).toInt ∧ (vv 75).toInt ≤ 110 := hB 75; omega
    have as6 : 1 ≤ (vv 77).toInt ∧ (vv 77).toInt ≤ 110 := by have q_ : 0 ≤ (vv 77).toInt ∧ (vv 77).toInt ≤ 110 := hB 77; omega
    refine Con.fr (c2_X10_end l G cI cJ cB cZ (ad 85) (ad 86) (ad 87) (ad 88) (ad 89) (ad 90) (ad 91) (ad 92) (ad 93) (ad 94) (ad 95) (ad 96) (ad 97) (ad 98) (ad 99) (ad 100) (ad 101) (ad 102) (ad 103) (ad 104) (ad 105) (ad 106) (ad 107) (ad 108) (ad 109) (ad 110) (ad 111) (ad 112) (ad 113) (ad 114) (ad 115) (ad 116) (ad 117) (ad 118) (ad 119) (ad 120) (ad 121) (ad 122) (ad 123) (ad 124) (ad 125) (ad 126) (ad 127) b1 (vv 50) (vv 51) (vv 52) (vv 53) (vv 54) (vv 55) (vv 56) (vv 57) (wl 3) (vv 58) (vv 59) (vv 60) (vv 61) (vv 62) (vv 63) (vv 64) (vv 65) (vv 66) (vv 67) (vv 68) (vv 69) (vv 70) (vv 71) (vv 72) (vv 73) (vv 74) (hB 50).1 (hB 50).2 (hB 51).1 (hB 51).2 (hB 52).1 (hB 52).2 (hB 54).1 (hB 54).2 (hB 55).1 (hB 55).2 (hB 56).1 (hB 56).2 (hB 57).1 (hB 57).2 (hB 58).1 (hB 58).2 (hB 59).1 (hB 59).2 (hB 62).1 (hB 62).2 (hB 63).1 (hB 63).2 (hB 64).1 (hB 64).2 (hB 66).1 (hB 66).2 (hB 67).2 (hB 68).1 (hB 68).2 (hB 71).1 (hB 71).2) [0] rfl (by decide +kernel) (fun r7 u7 hp => ?_)
    obtain ⟨h8, eh8⟩ : ∃ q, q = u7 := ⟨_, rfl⟩
    subst eh8
    have hp : ((-1) ≤ r7.toInt ∧ r7.toInt ≤ 1300 ∧ 0 ≤ h8.toInt ∧ h8.toInt ≤ 1300) := hp
    have hq7 := hp
    have l_l9 : (0 : Int32).toInt = 0 := rfl
    exact ⟨_, MJ.mk ad (upG vv 50 h8) 0 wl ff fj (hB.up 50 ⟨(by show 0 ≤ (h8 : Int32).toInt; omega), (by show (h8 : Int32).toInt ≤ 1300; omega)⟩) (by show 0 ≤ (0 : Int32).toInt ∧ (0 : Int32).toInt ≤ 1; omega) hF hr_5 hr_6 hr_7 hr_8 hr_9 hr_10 hr_11 hr_12 hr_13 hr_14 hr_15 hr_16 (show GIb 0 ((ff 70)) ((ff 71)) ((ff 72)) ((ff 68)) ((ff 74)) ((ff 75)) ((vv 87)) ((vv 88)) ((vv 79)) ((vv 83)) ((vv 80)) ((vv 84)) ((vv 81)) ((vv 85)) ((vv 82)) ((vv 86)) ((vv 62)) ((vv 68)) ((vv 64)) ((ff 89)) from by first | exact hGb | exact GIb.of0 hG | exact GIb.of1 hG | exact GIb.of0 hG2 | exact GIb.of1 hG2 | exact GIb.of0 (GI.le hG (fun _ => by omega)) | exact GIb.of1 (GI.le hG (fun _ => by omega)) | exact GIb.of0 (GI.off (by omega)) | exact GIb.of1 (GI.off (by omega))) rfl rfl, [1000, 1, 2, 3, 4, 5, 6, 7, 8, 9, 10, 11, 12, 13, 14, 15, 16, 17, 18, 19, 20, 21, 22, 23, 24, 25, 26, 27, 28, 29, 30, 31, 32, 33, 34, 35, 36, 37, 38, 39, 40, 41, 42], by decide +kernel, by decide +kernel, rfl⟩
  · skip
    have l_b : (1 : Int32).toInt = 1 := rfl
    have hG := hGb.2 rfl
    have as10 : 1 ≤ (vv 81).toInt ∧ (vv 81).toInt ≤ 40 := by have q_ : 0 ≤ (vv 81).toInt ∧ (vv 81).toInt ≤ 40 := hB 81; omega
    have as11 : 1 ≤ (vv 82).toInt ∧ (vv 82).toInt ≤ 40 := by have q_ : 0 ≤ (vv 82).toInt ∧ (vv 82).toInt ≤ 40 := hB 82; omega
    have as12 : 1 ≤ (vv 85).toInt ∧ (vv 85).toInt ≤ 40 := by have q_ : 0 ≤ (vv 85).toInt ∧ (vv 85).toInt ≤ 40 := hB 85; omega
    have as13 : 1 ≤ (vv 86).toInt ∧ (vv 86).toInt ≤ 40 := by have q_ : 0 ≤ (vv 86).toInt ∧ (vv 86).toInt ≤ 40 := hB 86; omega
    have as14 : 1 ≤ (vv 76).toInt ∧ (vv 76).toInt ≤ 110 := by have q_ : 0 ≤ (vv 76).toInt ∧ (vv 76).toInt ≤ 110 := hB 76; omega
    have as15 : 1 ≤ (vv 78).toInt ∧ (vv 78).toInt ≤ 110 := by have q_ : 0 ≤ (vv 78).toInt ∧ (vv 78).toInt ≤ 110 := hB 78; omega
    refine Con.fr (c89_X10_end l G cI cJ cB cZ (ad 85) (ad 86) (ad 87) (ad 88) (ad 89) (ad 90) (ad 91) (ad 92) (ad 93) (ad 94) (ad 95) (ad 96) (ad 97) (ad 98) (ad 99) (ad 100) (ad 101) (ad 102) (ad 103) (ad 104) (ad 105) (ad 106) (ad 107) (ad 108) (ad 109) (ad 110) (ad 111) (ad 112) (ad 113) (ad 114) (ad 115) (ad 116) (ad 117) (ad 118) (ad 119) (ad 120) (ad 121) (ad 122) (ad 123) (ad 124) (ad 125) (ad 126) (ad 127) b1 (vv 50) (vv 51) (vv 52) (vv 53) (vv 54) (vv 55) (vv 56) (vv 57) (wl 3) (vv 58) (vv 59) (vv 60) (vv 61) (vv 62) (vv 63) (vv 64) (vv 65) (vv 66) (vv 67) (vv 68) (vv 69) (vv 70) (vv 71) (vv 72) (vv 73) (vv 74) (hB 50).1 (hB 50).2 (hB 51).1 (hB 51).2 (hB 52).1 (hB 52).2 (hB 54).1 (hB 54).2 (hB 55).1 (hB 55).2 (hB 56).1 (hB 56).2 (hB 57).1 (hB 57).2 (hB 58).1 (hB 58).2 (hB 59).1 (hB 59).2 (hB 62).1 (hB 62).2 (hB 63).1 (hB 63).2 (hB 64).1 (hB 64).2 (hB 66).1 (hB 66).2 (hB 67).2 (hB 68).1 (hB 68).2 (hB 71).1 (hB 71).2) [0] rfl (by decide +kernel) (fun r16 u16 hp => ?_)
    obtain ⟨h17, eh17⟩ : ∃ q, q = u16 := ⟨_, rfl⟩
    subst eh17
    have hp : ((-1) ≤ r16.toInt ∧ r16.toInt ≤ 1300 ∧ 0 ≤ h17.toInt ∧ h17.toInt ≤ 1300) := hp
    have hq16 := hp
    have l_l18 : (1 : Int32).toInt = 1 := rfl
    exact ⟨_, MJ.mk ad (upG vv 50 h17) 1 wl ff fj (hB.up 50 ⟨(by show 0 ≤ (h17 : Int32).toInt; omega), (by show (h17 : Int32).toInt ≤ 1300; omega)⟩) (by show 0 ≤ (1 : Int32).toInt ∧ (1 : Int32).toInt ≤ 1; omega) hF hr_5 hr_6 hr_7 hr_8 hr_9 hr_10 hr_11 hr_12 hr_13 hr_14 hr_15 hr_16 (show GIb 1 ((ff 70)) ((ff 71)) ((ff 72)) ((ff 68)) ((ff 74)) ((ff 75)) ((vv 87)) ((vv 88)) ((vv 79)) ((vv 83)) ((vv 80)) ((vv 84)) ((vv 81)) ((vv 85)) ((vv 82)) ((vv 86)) ((vv 62)) ((vv 68)) ((vv 64)) ((ff 89)) from by first | exact hGb | exact GIb.of0 hG | exact GIb.of1 hG | exact GIb.of0 hG2 | exact GIb.of1 hG2 | exact GIb.of0 (GI.le hG (fun _ => by omega)) | exact GIb.of1 (GI.le hG (fun _ => by omega)) | exact GIb.of0 (GI.off (by omega)) | exact GIb.of1 (GI.off (by omega))) rfl rfl, [1000, 1, 2, 3, 4, 5, 6, 7, 8, 9, 10, 11, 12, 13, 14, 15, 16, 17, 18, 19, 20, 21, 22, 23, 24, 25, 26, 27, 28, 29, 30, 31, 32, 33, 34, 35, 36, 37, 38, 39, 40, 41, 42], by decide +kernel, by decide +kernel, rfl⟩
