set_option maxHeartbeats 4000000 in
set_option maxRecDepth 100000 in
theorem law_loop (l : Launch) {p : Program} {e : Env} {s : State} {m : MethodId} {below : List Frame} {meth : Method} {c : Code} {b Ln : Nat} {xs : Nat → Int32} (C0 : lw_At p s m meth c b Ln xs) (hL : Ln ≤ 3072) {D : va_G} {cA : Nat → ClassId} {τ : Nat → Nat} {G : Nat → Nat → Nat} {L : List Nat} {a1 a2 : Nat} (hS : SW τ G L) (h1 : τ a1 = 12) (h2 : τ a2 = 13) (hK : XK D cA s) (hA : ∀ q ∈ L, s.heap.size ≤ q) (hr : meth.sig.returnType = ret) (hlocks : meth.locks = false) : ∀ (z : Nat) (i : Int) (σ : Nat → Nat → Int) (H : Heap) (locs : List Loc) (ls : Array Slot), 0 ≤ i → i ≤ (Ln : Int) + 6 → z = ((Ln : Int) + 6 - i).toNat → PW D cA τ G L σ H → FI G a2 σ → FM (σ (G a2 0)) → σ a1 5 = σ a2 1 → va_S (fun q => s.heap.size ≤ q) s.heap H locs → lv_has ls 4 [(3, .int (jI i)), (2, .ref a2), (1, .ref a1), (0, .ref b)] → W p l e room_1 s m #[Value.ref b] below meth c H locs 224 38112 (lw_Z below #[Value.ref b] s) (F0 m 18 ls []) := by
  obtain ⟨hx, hb, hr, hml, hown, hts0, hX, hbl, hlocks, hgv⟩ := id C0
  have hown : s.vm.findClass RL = some m.cls := hown
  have hts : ∀ w ∈ wsLW, w.before #[Value.ref b] s = true := fun w h => hts0 w (wsLW_in w h)
  have hbA : ¬ (fun q : Nat => s.heap.size ≤ q) b := Nat.not_le.mpr hbl
  intro z
  induction z using Nat.strongRecOn with
  | ind z ih =>
    intro i σ H locs ls i0 i9 hz hW hI hM hE hF hl
    refine lv_iload_n hx hb dL_law_18 rfl (lv_at hl 0 rfl) ?_
    refine lv_aload_n hx hb dL_law_19 rfl (lv_at hl 3 rfl) ?_
    refine va_slen hx hb hX hbl hbA hF dL_law_20 ?_
    rw [ofNat_jI]
    refine j_bi hx hb dL_law_21 (by decide) ?_
    refine j_sub hx hb dL_law_23 ?_
    refine j_icmp_gt (tgt := 1067) hx hb (by omega) (by omega) dL_law_24 (by decide) (fun c1 => ?_) (fun c1 => ?_)
    · refine va_forget (fun q hq => hF.2.2 q hq) ?_
      refine W.widen (k := 600000) (n := 7302250) (Nat.le_of_ble_eq_true rfl) (Nat.le_of_ble_eq_true rfl) ?_
      refine j_const hx hb dL_law_1067 ?_
      exact lw_ret hx hb hr hlocks dL_law_1068
    · have kk : ∀ (σ : Nat → Nat → Int) (H : Heap) (locs : List Loc), PW D cA τ G L σ H → FI G a2 σ → FM (σ (G a2 0)) → σ a1 5 = σ a2 1 → va_S (fun q => s.heap.size ≤ q) s.heap H locs → W p l e room_1 s m #[Value.ref b] below meth c H locs 224 38112 (lw_Z below #[Value.ref b] s) (F0 m 1061 ls []) := by
        intro σ H locs hW hI hM hE hF
        refine j_iinc (lv' := [(3, .int (jI (i + 6))), (2, .ref a2), (1, .ref a1), (0, .ref b)]) hx hb dL_law_1061 hl (k := 0) rfl (by decide) rfl (fun ls hl => ?_)
        refine lv_goto (tgt := 18) hx hb dL_law_1064 (by decide) ?_
        exact ih _ (by omega) (i + 6) σ H locs ls (by omega) (by omega) rfl hW hI hM hE hF hl
      refine lv_aload_n hx hb dL_law_27 rfl (lv_at hl 3 rfl) ?_
      refine lv_iload_n hx hb dL_law_28 rfl (lv_at hl 0 rfl) ?_
      refine va_sld hx hb hX hbl hbA hF (jI_in (by omega) (by omega) (by omega)) dL_law_29 (j_raw fun y ry ey => ?_)
      refine j_bi hx hb dL_law_30 (by decide) ?_
      refine j_and31 hx hb dL_law_32 ?_
      have hry : rg (y % 32) := by omega
      have hy31 : 0 ≤ y % 32 ∧ y % 32 ≤ 31 := by omega
      generalize y % 32 = x at hry hy31 ⊢
      by_cases x_0 : x = 0
      · refine lv_tableIn (tgt := 172) (off := 139) hx hb dL_law_33 (by rw [jI_toInt hry]; omega) (by rw [jI_toInt hry]; omega) (by rw [jI_toInt hry, x_0]; rfl) (by decide) ?_
        exact law_c0 l C0 hL hS h1 h2 hK hA hW hI hM hE hF i0 (by omega) hl kk
      by_cases x_1 : x = 1
      · refine lv_tableIn (tgt := 235) (off := 202) hx hb dL_law_33 (by rw [jI_toInt hry]; omega) (by rw [jI_toInt hry]; omega) (by rw [jI_toInt hry, x_1]; rfl) (by decide) ?_
        exact law_c1 l C0 hL hS h1 h2 hK hA hW hI hM hE hF i0 (by omega) hl kk
      by_cases x_2 : x = 2
      · refine lv_tableIn (tgt := 268) (off := 235) hx hb dL_law_33 (by rw [jI_toInt hry]; omega) (by rw [jI_toInt hry]; omega) (by rw [jI_toInt hry, x_2]; rfl) (by decide) ?_
        exact law_c2 l C0 hL hS h1 h2 hK hA hW hI hM hE hF i0 (by omega) hl kk
      by_cases x_3 : x = 3
      · refine lv_tableIn (tgt := 301) (off := 268) hx hb dL_law_33 (by rw [jI_toInt hry]; omega) (by rw [jI_toInt hry]; omega) (by rw [jI_toInt hry, x_3]; rfl) (by decide) ?_
        exact law_c3 l C0 hL hS h1 h2 hK hA hW hI hM hE hF i0 (by omega) hl kk
      by_cases x_4 : x = 4
      · refine lv_tableIn (tgt := 324) (off := 291) hx hb dL_law_33 (by rw [jI_toInt hry]; omega) (by rw [jI_toInt hry]; omega) (by rw [jI_toInt hry, x_4]; rfl) (by decide) ?_
        exact law_c4 l C0 hL hS h1 h2 hK hA hW hI hM hE hF i0 (by omega) hl kk
      by_cases x_5 : x = 5
      · refine lv_tableIn (tgt := 347) (off := 314) hx hb dL_law_33 (by rw [jI_toInt hry]; omega) (by rw [jI_toInt hry]; omega) (by rw [jI_toInt hry, x_5]; rfl) (by decide) ?_
        exact law_c5 l C0 hL hS h1 h2 hK hA hW hI hM hE hF i0 (by omega) hl kk
      by_cases x_6 : x = 6
      · refine lv_tableIn (tgt := 370) (off := 337) hx hb dL_law_33 (by rw [jI_toInt hry]; omega) (by rw [jI_toInt hry]; omega) (by rw [jI_toInt hry, x_6]; rfl) (by decide) ?_
        exact law_c6 l C0 hL hS h1 h2 hK hA hW hI hM hE hF i0 (by omega) hl kk
      by_cases x_7 : x = 7
      · refine lv_tableIn (tgt := 393) (off := 360) hx hb dL_law_33 (by rw [jI_toInt hry]; omega) (by rw [jI_toInt hry]; omega) (by rw [jI_toInt hry, x_7]; rfl) (by decide) ?_
        exact law_c7 l C0 hL hS h1 h2 hK hA hW hI hM hE hF i0 (by omega) hl kk
      by_cases x_8 : x = 8
      · refine lv_tableIn (tgt := 416) (off := 383) hx hb dL_law_33 (by rw [jI_toInt hry]; omega) (by rw [jI_toInt hry]; omega) (by rw [jI_toInt hry, x_8]; rfl) (by decide) ?_
        exact law_c8 l C0 hL hS h1 h2 hK hA hW hI hM hE hF i0 (by omega) hl kk
      by_cases x_9 : x = 9
      · refine lv_tableIn (tgt := 439) (off := 406) hx hb dL_law_33 (by rw [jI_toInt hry]; omega) (by rw [jI_toInt hry]; omega) (by rw [jI_toInt hry, x_9]; rfl) (by decide) ?_
        exact law_c9 l C0 hL hS h1 h2 hK hA hW hI hM hE hF i0 (by omega) hl kk
      by_cases x_10 : x = 10
      · refine lv_tableIn (tgt := 472) (off := 439) hx hb dL_law_33 (by rw [jI_toInt hry]; omega) (by rw [jI_toInt hry]; omega) (by rw [jI_toInt hry, x_10]; rfl) (by decide) ?_
        exact law_c10 l C0 hL hS h1 h2 hK hA hW hI hM hE hF i0 (by omega) hl kk
      by_cases x_11 : x = 11
      · refine lv_tableIn (tgt := 505) (off := 472) hx hb dL_law_33 (by rw [jI_toInt hry]; omega) (by rw [jI_toInt hry]; omega) (by rw [jI_toInt hry, x_11]; rfl) (by decide) ?_
        exact law_c11 l C0 hL hS h1 h2 hK hA hW hI hM hE hF i0 (by omega) hl kk
      by_cases x_12 : x = 12
      · refine lv_tableIn (tgt := 538) (off := 505) hx hb dL_law_33 (by rw [jI_toInt hry]; omega) (by rw [jI_toInt hry]; omega) (by rw [jI_toInt hry, x_12]; rfl) (by decide) ?_
        exact law_c12 l C0 hL hS h1 h2 hK hA hW hI hM hE hF i0 (by omega) hl kk
      by_cases x_13 : x = 13
      · refine lv_tableIn (tgt := 571) (off := 538) hx hb dL_law_33 (by rw [jI_toInt hry]; omega) (by rw [jI_toInt hry]; omega) (by rw [jI_toInt hry, x_13]; rfl) (by decide) ?_
        exact law_c13 l C0 hL hS h1 h2 hK hA hW hI hM hE hF i0 (by omega) hl kk
      by_cases x_14 : x = 14
      · refine lv_tableIn (tgt := 604) (off := 571) hx hb dL_law_33 (by rw [jI_toInt hry]; omega) (by rw [jI_toInt hry]; omega) (by rw [jI_toInt hry, x_14]; rfl) (by decide) ?_
        exact law_c14 l C0 hL hS h1 h2 hK hA hW hI hM hE hF i0 (by omega) hl kk
      by_cases x_15 : x = 15
      · refine lv_tableIn (tgt := 653) (off := 620) hx hb dL_law_33 (by rw [jI_toInt hry]; omega) (by rw [jI_toInt hry]; omega) (by rw [jI_toInt hry, x_15]; rfl) (by decide) ?_
        exact law_c15 l C0 hL hS h1 h2 hK hA hW hI hM hE hF i0 (by omega) hl kk
      by_cases x_16 : x = 16
      · refine lv_tableIn (tgt := 686) (off := 653) hx hb dL_law_33 (by rw [jI_toInt hry]; omega) (by rw [jI_toInt hry]; omega) (by rw [jI_toInt hry, x_16]; rfl) (by decide) ?_
        exact law_c16 l C0 hL hS h1 h2 hK hA hW hI hM hE hF i0 (by omega) hl kk
      by_cases x_17 : x = 17
      · refine lv_tableIn (tgt := 709) (off := 676) hx hb dL_law_33 (by rw [jI_toInt hry]; omega) (by rw [jI_toInt hry]; omega) (by rw [jI_toInt hry, x_17]; rfl) (by decide) ?_
        exact law_c17 l C0 hL hS h1 h2 hK hA hW hI hM hE hF i0 (by omega) hl kk
      by_cases x_18 : x = 18
      · refine lv_tableIn (tgt := 732) (off := 699) hx hb dL_law_33 (by rw [jI_toInt hry]; omega) (by rw [jI_toInt hry]; omega) (by rw [jI_toInt hry, x_18]; rfl) (by decide) ?_
        exact law_c18 l C0 hL hS h1 h2 hK hA hW hI hM hE hF i0 (by omega) hl kk
      by_cases x_19 : x = 19
      · refine lv_tableIn (tgt := 765) (off := 732) hx hb dL_law_33 (by rw [jI_toInt hry]; omega) (by rw [jI_toInt hry]; omega) (by rw [jI_toInt hry, x_19]; rfl) (by decide) ?_
        exact law_c19 l C0 hL hS h1 h2 hK hA hW hI hM hE hF i0 (by omega) hl kk
      by_cases x_20 : x = 20
      · refine lv_tableIn (tgt := 808) (off := 775) hx hb dL_law_33 (by rw [jI_toInt hry]; omega) (by rw [jI_toInt hry]; omega) (by rw [jI_toInt hry, x_20]; rfl) (by decide) ?_
        exact law_c20 l C0 hL hS h1 h2 hK hA hW hI hM hE hF i0 (by omega) hl kk
      by_cases x_21 : x = 21
      · refine lv_tableIn (tgt := 831) (off := 798) hx hb dL_law_33 (by rw [jI_toInt hry]; omega) (by rw [jI_toInt hry]; omega) (by rw [jI_toInt hry, x_21]; rfl) (by decide) ?_
        exact law_c21 l C0 hL hS h1 h2 hK hA hW hI hM hE hF i0 (by omega) hl kk
      by_cases x_22 : x = 22
      · refine lv_tableIn (tgt := 854) (off := 821) hx hb dL_law_33 (by rw [jI_toInt hry]; omega) (by rw [jI_toInt hry]; omega) (by rw [jI_toInt hry, x_22]; rfl) (by decide) ?_
        exact law_c22 l C0 hL hS h1 h2 hK hA hW hI hM hE hF i0 (by omega) hl kk
      by_cases x_23 : x = 23
      · refine lv_tableIn (tgt := 877) (off := 844) hx hb dL_law_33 (by rw [jI_toInt hry]; omega) (by rw [jI_toInt hry]; omega) (by rw [jI_toInt hry, x_23]; rfl) (by decide) ?_
        exact law_c23 l C0 hL hS h1 h2 hK hA hW hI hM hE hF i0 (by omega) hl kk
      by_cases x_24 : x = 24
      · refine lv_tableIn (tgt := 890) (off := 857) hx hb dL_law_33 (by rw [jI_toInt hry]; omega) (by rw [jI_toInt hry]; omega) (by rw [jI_toInt hry, x_24]; rfl) (by decide) ?_
        exact law_c24 l C0 hL hS h1 h2 hK hA hW hI hM hE hF i0 (by omega) hl kk
      by_cases x_25 : x = 25
      · refine lv_tableIn (tgt := 923) (off := 890) hx hb dL_law_33 (by rw [jI_toInt hry]; omega) (by rw [jI_toInt hry]; omega) (by rw [jI_toInt hry, x_25]; rfl) (by decide) ?_
        exact law_c25 l C0 hL hS h1 h2 hK hA hW hI hM hE hF i0 (by omega) hl kk
      by_cases x_26 : x = 26
      · refine lv_tableIn (tgt := 966) (off := 933) hx hb dL_law_33 (by rw [jI_toInt hry]; omega) (by rw [jI_toInt hry]; omega) (by rw [jI_toInt hry, x_26]; rfl) (by decide) ?_
        exact law_c26 l C0 hL hS h1 h2 hK hA hW hI hM hE hF i0 (by omega) hl kk
      by_cases x_27 : x = 27
      · refine lv_tableIn (tgt := 989) (off := 956) hx hb dL_law_33 (by rw [jI_toInt hry]; omega) (by rw [jI_toInt hry]; omega) (by rw [jI_toInt hry, x_27]; rfl) (by decide) ?_
        exact law_c27 l C0 hL hS h1 h2 hK hA hW hI hM hE hF i0 (by omega) hl kk
      by_cases x_28 : x = 28
      · refine lv_tableIn (tgt := 1002) (off := 969) hx hb dL_law_33 (by rw [jI_toInt hry]; omega) (by rw [jI_toInt hry]; omega) (by rw [jI_toInt hry, x_28]; rfl) (by decide) ?_
        exact law_c28 l C0 hL hS h1 h2 hK hA hW hI hM hE hF i0 (by omega) hl kk
      by_cases x_29 : x = 29
      · refine lv_tableIn (tgt := 1015) (off := 982) hx hb dL_law_33 (by rw [jI_toInt hry]; omega) (by rw [jI_toInt hry]; omega) (by rw [jI_toInt hry, x_29]; rfl) (by decide) ?_
        exact law_c29 l C0 hL hS h1 h2 hK hA hW hI hM hE hF i0 (by omega) hl kk
      by_cases x_30 : x = 30
      · refine lv_tableIn (tgt := 1038) (off := 1005) hx hb dL_law_33 (by rw [jI_toInt hry]; omega) (by rw [jI_toInt hry]; omega) (by rw [jI_toInt hry, x_30]; rfl) (by decide) ?_
        exact law_c30 l C0 hL hS h1 h2 hK hA hW hI hM hE hF i0 (by omega) hl kk
      refine lv_tableOut (tgt := 1061) hx hb dL_law_33 (by rw [jI_toInt hry]; omega) (by decide) ?_
      exact kk σ H locs hW hI hM hE hF
