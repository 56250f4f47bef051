set_option maxHeartbeats 8000000 in
set_option maxRecDepth 100000 in
theorem xw_end (l : Launch) (G : va_G) (cI cJ cB cZ : ClassId) {a g : Nat} {tm : Int} {w : va_W} (h : XI cI cJ cB cZ a tm g w) (b1 : Int32) : Con l G (TY cI cJ cB cZ) yX9_end cX9_end 2 (some .int) ({ frames := 0, cells := 0, slots := 0, locals := 0 } : Room) [.ref a, .int b1] w (QI G (TY cI cJ cB cZ) (fun (r : Int32) (u : va_W) => XI cI cJ cB cZ a tm g u) (fun u => u)) := by
  obtain ⟨ad, vv, wl, ff, fj, ⟨hB, hF, hr_0, hr_1, hr_3, hr_4, hPB⟩, rfl, rfl, rfl⟩ := h
  refine Con.fr (c115_X9_end l G cI cJ cB cZ (ad 0) (ad 1) (ad 24) (ad 50) (ad 58) (ad 59) (ad 73) (ad 84) (ad 25) (ad 27) (ad 26) b1 (vv 0) (vv 1) (vv 8) (vv 9) (vv 10) (vv 11) (vv 12) (vv 13) (vv 14) (vv 15) (vv 16) (vv 17) (wl 0) (vv 18) (hB 9).1 (hB 9).2 (hB 10).1 (hB 10).2 (hB 14).1 (hB 14).2 (hB 15).1 (hB 15).2) [0, 24, 25] rfl (by decide +kernel) (fun r1 u1 hp => ?_)
  obtain ⟨h2, eh2⟩ : ∃ q, q = u1 := ⟨_, rfl⟩
  subst eh2
  have hp : ((-1) ≤ r1.toInt ∧ r1.toInt ≤ 1300 ∧ 0 ≤ h2.toInt ∧ h2.toInt ≤ 1300) := hp
  have hq1 := hp
  exact ⟨_, XI.mk ad (upG vv 14 h2) wl ff fj (hB.up 14 ⟨(by show 0 ≤ (h2 : Int32).toInt; omega), (by show (h2 : Int32).toInt ≤ 1300; omega)⟩) hF hr_0 hr_1 hr_3 hr_4 (by first | exact hPB | exact hPBM) rfl rfl, [1000, 1, 2, 3, 4, 5, 6, 7, 8, 9, 10, 11, 12, 13, 14, 15, 16, 17, 18, 19, 20, 21, 22, 23, 1001, 1002, 26, 27, 28, 29, 30, 31, 32, 33, 34, 35, 36, 37, 38, 39, 40, 41, 42, 43, 44, 45, 46, 47, 48, 49, 50, 51, 52, 53, 54, 55, 56, 57, 58, 59, 60, 61, 62, 63, 64, 65, 66, 67, 68, 69, 70, 71, 72, 73, 74, 75, 76, 77, 78, 79, 80, 81, 82, 83, 84], by decide +kernel, by decide +kernel, rfl⟩
