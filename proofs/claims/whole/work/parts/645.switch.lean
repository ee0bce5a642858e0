set_option maxHeartbeats 4000000 in
set_option maxRecDepth 100000 in
theorem cs_all {p : Program} {l : Launch} {e : Env} {s : State} {m : MethodId} {below : List Frame} {meth : Method} {c : Code} {H : Heap} {locs : List Loc} {cells slots : Nat} {Q : State → Prop} {ls : Array Slot} {G : GG} {S : SM} {X Y : va_W} {b L a b' i : Nat} {z : Int} {xs : Nat → Int32} (lc : LwC p s m meth c b L xs G) (hL : L ≤ 3072) (hi : i + 6 ≤ L) (hz : z < 1000000) (hs : LwS s G S H locs (X ++ Y)) (hI : Inv G S z a b' X Y) (hl : lv_has ls 4 [(0, .ref b), (1, .ref a), (2, .ref b'), (3, .int (kI (i : Int)))]) (hr : cells ≤ 500000 ∧ slots ≤ 7000000) (kk : LwK p l e s m below meth c G b a b' (z + 1) (cells + 5) (slots + 4000) Q ls) (v : Int32) : W p l e room_1 s m #[Value.ref b] below meth c H locs cells slots Q (F0 m 33 ls [.int v]) := by
  have hx := lc.1.1
  have hb := lc.1.2.1
  by_cases h0 : v.toInt < 0 ∨ 50 < v.toInt
  · exact lv_tableOut (tgt := 1617) hx hb dL_law_33 h0 (by decide) (W.widen (Nat.le_add_right _ _) (Nat.le_add_right _ _) (kk _ _ _ _ _ hs (hI.mono (by omega))))
  · have h1 : ¬ v.toInt < 0 := fun h => h0 (Or.inl h)
    have h2 : ¬ 50 < v.toInt := fun h => h0 (Or.inr h)
    by_cases g4 : v.toInt ≤ 25
    · by_cases g6 : v.toInt ≤ 12
      · by_cases g8 : v.toInt ≤ 6
        · by_cases g10 : v.toInt ≤ 3
          · by_cases g12 : v.toInt ≤ 1
            · by_cases g14 : v.toInt ≤ 0
              · have hv : v.toInt = 0 := by omega
                exact lv_tableIn (off := 219) (tgt := 252) hx hb dL_law_33 h1 h2 (by rw [hv] <;> rfl) (by decide) (cs_feed lc hL hi hz hs hI hl hr kk)
              · have hv : v.toInt = 1 := by omega
                exact lv_tableIn (off := 282) (tgt := 315) hx hb dL_law_33 h1 h2 (by rw [hv] <;> rfl) (by decide) (cs_end lc hL hi hz hs hI hl hr kk)
            · by_cases g14 : v.toInt ≤ 2
              · have hv : v.toInt = 2 := by omega
                exact lv_tableIn (off := 305) (tgt := 338) hx hb dL_law_33 h1 h2 (by rw [hv] <;> rfl) (by decide) (cs_pool lc hL hi hz hs hI hl hr kk)
              · have hv : v.toInt = 3 := by omega
                exact lv_tableIn (off := 318) (tgt := 351) hx hb dL_law_33 h1 h2 (by rw [hv] <;> rfl) (by decide) (cs_sample lc hL hi hz hs hI hl hr kk)
          · by_cases g12 : v.toInt ≤ 5
            · by_cases g14 : v.toInt ≤ 4
              · have hv : v.toInt = 4 := by omega
                exact lv_tableIn (off := 331) (tgt := 364) hx hb dL_law_33 h1 h2 (by rw [hv] <;> rfl) (by decide) (cs_fault lc hL hi hz hs hI hl hr kk)
              · have hv : v.toInt = 5 := by omega
                exact lv_tableIn (off := 354) (tgt := 387) hx hb dL_law_33 h1 h2 (by rw [hv] <;> rfl) (by decide) (cs_count lc hL hi hz hs hI hl hr kk)
            · have hv : v.toInt = 6 := by omega
              exact lv_tableIn (off := 377) (tgt := 410) hx hb dL_law_33 h1 h2 (by rw [hv] <;> rfl) (by decide) (cs_row lc hL hi hz hs hI hl hr kk)
        · by_cases g10 : v.toInt ≤ 9
          · by_cases g12 : v.toInt ≤ 8
            · by_cases g14 : v.toInt ≤ 7
              · have hv : v.toInt = 7 := by omega
                exact lv_tableIn (off := 410) (tgt := 443) hx hb dL_law_33 h1 h2 (by rw [hv] <;> rfl) (by decide) (cs_band lc hL hi hz hs hI hl hr kk)
              · have hv : v.toInt = 8 := by omega
                exact lv_tableIn (off := 443) (tgt := 476) hx hb dL_law_33 h1 h2 (by rw [hv] <;> rfl) (by decide) (cs_bandOf lc hL hi hz hs hI hl hr kk)
            · have hv : v.toInt = 9 := by omega
              exact lv_tableIn (off := 466) (tgt := 499) hx hb dL_law_33 h1 h2 (by rw [hv] <;> rfl) (by decide) (cs_rate lc hL hi hz hs hI hl hr kk)
          · by_cases g12 : v.toInt ≤ 11
            · by_cases g14 : v.toInt ≤ 10
              · have hv : v.toInt = 10 := by omega
                exact lv_tableIn (off := 500) (tgt := 533) hx hb dL_law_33 h1 h2 (by rw [hv] <;> rfl) (by decide) (cs_error lc hL hi hz hs hI hl hr kk)
              · have hv : v.toInt = 11 := by omega
                exact lv_tableIn (off := 514) (tgt := 547) hx hb dL_law_33 h1 h2 (by rw [hv] <;> rfl) (by decide) (cs_joint lc hL hi hz hs hI hl hr kk)
            · have hv : v.toInt = 12 := by omega
              exact lv_tableIn (off := 538) (tgt := 571) hx hb dL_law_33 h1 h2 (by rw [hv] <;> rfl) (by decide) (cs_auc lc hL hi hz hs hI hl hr kk)
      · by_cases g8 : v.toInt ≤ 19
        · by_cases g10 : v.toInt ≤ 16
          · by_cases g12 : v.toInt ≤ 14
            · by_cases g14 : v.toInt ≤ 13
              · have hv : v.toInt = 13 := by omega
                exact lv_tableIn (off := 562) (tgt := 595) hx hb dL_law_33 h1 h2 (by rw [hv] <;> rfl) (by decide) (cs_ks lc hL hi hz hs hI hl hr kk)
              · have hv : v.toInt = 14 := by omega
                exact lv_tableIn (off := 586) (tgt := 619) hx hb dL_law_33 h1 h2 (by rw [hv] <;> rfl) (by decide) (cs_hull lc hL hi hz hs hI hl hr kk)
            · by_cases g14 : v.toInt ≤ 15
              · have hv : v.toInt = 15 := by omega
                exact lv_tableIn (off := 619) (tgt := 652) hx hb dL_law_33 h1 h2 (by rw [hv] <;> rfl) (by decide) (cs_cost lc hL hi hz hs hI hl hr kk)
              · have hv : v.toInt = 16 := by omega
                exact lv_tableIn (off := 642) (tgt := 675) hx hb dL_law_33 h1 h2 (by rw [hv] <;> rfl) (by decide) (cs_cut lc hL hi hz hs hI hl hr kk)
          · by_cases g12 : v.toInt ≤ 18
            · by_cases g14 : v.toInt ≤ 17
              · have hv : v.toInt = 17 := by omega
                exact lv_tableIn (off := 665) (tgt := 698) hx hb dL_law_33 h1 h2 (by rw [hv] <;> rfl) (by decide) (cs_refer lc hL hi hz hs hI hl hr kk)
              · have hv : v.toInt = 18 := by omega
                exact lv_tableIn (off := 698) (tgt := 731) hx hb dL_law_33 h1 h2 (by rw [hv] <;> rfl) (by decide) (cs_two lc hL hi hz hs hI hl hr kk)
            · have hv : v.toInt = 19 := by omega
              exact lv_tableIn (off := 721) (tgt := 754) hx hb dL_law_33 h1 h2 (by rw [hv] <;> rfl) (by decide) (cs_would lc hL hi hz hs hI hl hr kk)
        · by_cases g10 : v.toInt ≤ 22
          · by_cases g12 : v.toInt ≤ 21
            · by_cases g14 : v.toInt ≤ 20
              · have hv : v.toInt = 20 := by omega
                exact lv_tableIn (off := 754) (tgt := 787) hx hb dL_law_33 h1 h2 (by rw [hv] <;> rfl) (by decide) (cs_limit lc hL hi hz hs hI hl hr kk)
              · have hv : v.toInt = 21 := by omega
                exact lv_tableIn (off := 777) (tgt := 810) hx hb dL_law_33 h1 h2 (by rw [hv] <;> rfl) (by decide) (cs_accepts lc hL hi hz hs hI hl hr kk)
            · have hv : v.toInt = 22 := by omega
              exact lv_tableIn (off := 800) (tgt := 833) hx hb dL_law_33 h1 h2 (by rw [hv] <;> rfl) (by decide) (cs_capture lc hL hi hz hs hI hl hr kk)
          · by_cases g12 : v.toInt ≤ 24
            · by_cases g14 : v.toInt ≤ 23
              · have hv : v.toInt = 23 := by omega
                exact lv_tableIn (off := 823) (tgt := 856) hx hb dL_law_33 h1 h2 (by rw [hv] <;> rfl) (by decide) (cs_drift lc hL hi hz hs hI hl hr kk)
              · have hv : v.toInt = 24 := by omega
                exact lv_tableIn (off := 847) (tgt := 880) hx hb dL_law_33 h1 h2 (by rw [hv] <;> rfl) (by decide) (cs_chi lc hL hi hz hs hI hl hr kk)
            · have hv : v.toInt = 25 := by omega
              exact lv_tableIn (off := 861) (tgt := 894) hx hb dL_law_33 h1 h2 (by rw [hv] <;> rfl) (by decide) (cs_mean lc hL hi hz hs hI hl hr kk)
    · by_cases g6 : v.toInt ≤ 38
      · by_cases g8 : v.toInt ≤ 32
        · by_cases g10 : v.toInt ≤ 29
          · by_cases g12 : v.toInt ≤ 27
            · by_cases g14 : v.toInt ≤ 26
              · have hv : v.toInt = 26 := by omega
                exact lv_tableIn (off := 885) (tgt := 918) hx hb dL_law_33 h1 h2 (by rw [hv] <;> rfl) (by decide) (cs_median lc hL hi hz hs hI hl hr kk)
              · have hv : v.toInt = 27 := by omega
                exact lv_tableIn (off := 898) (tgt := 931) hx hb dL_law_33 h1 h2 (by rw [hv] <;> rfl) (by decide) (cs_mixed lc hL hi hz hs hI hl hr kk)
            · by_cases g14 : v.toInt ≤ 28
              · have hv : v.toInt = 28 := by omega
                exact lv_tableIn (off := 932) (tgt := 965) hx hb dL_law_33 h1 h2 (by rw [hv] <;> rfl) (by decide) (cs_resample lc hL hi hz hs hI hl hr kk)
              · have hv : v.toInt = 29 := by omega
                exact lv_tableIn (off := 996) (tgt := 1029) hx hb dL_law_33 h1 h2 (by rw [hv] <;> rfl) (by decide) (cs_inversions lc hL hi hz hs hI hl hr kk)
          · by_cases g12 : v.toInt ≤ 31
            · by_cases g14 : v.toInt ≤ 30
              · have hv : v.toInt = 30 := by omega
                exact lv_tableIn (off := 1009) (tgt := 1042) hx hb dL_law_33 h1 h2 (by rw [hv] <;> rfl) (by decide) (cs_between lc hL hi hz hs hI hl hr kk)
              · have hv : v.toInt = 31 := by omega
                exact lv_tableIn (off := 1052) (tgt := 1085) hx hb dL_law_33 h1 h2 (by rw [hv] <;> rfl) (by decide) (cs_split lc hL hi hz hs hI hl hr kk)
            · have hv : v.toInt = 32 := by omega
              exact lv_tableIn (off := 1076) (tgt := 1109) hx hb dL_law_33 h1 h2 (by rw [hv] <;> rfl) (by decide) (cs_splitAt lc hL hi hz hs hI hl hr kk)
        · by_cases g10 : v.toInt ≤ 35
          · by_cases g12 : v.toInt ≤ 34
            · by_cases g14 : v.toInt ≤ 33
              · have hv : v.toInt = 33 := by omega
                exact lv_tableIn (off := 1109) (tgt := 1142) hx hb dL_law_33 h1 h2 (by rw [hv] <;> rfl) (by decide) (cs_month lc hL hi hz hs hI hl hr kk)
              · have hv : v.toInt = 34 := by omega
                exact lv_tableIn (off := 1122) (tgt := 1155) hx hb dL_law_33 h1 h2 (by rw [hv] <;> rfl) (by decide) (cs_off lc hL hi hz hs hI hl hr kk)
            · have hv : v.toInt = 35 := by omega
              exact lv_tableIn (off := 1156) (tgt := 1189) hx hb dL_law_33 h1 h2 (by rw [hv] <;> rfl) (by decide) (cs_share lc hL hi hz hs hI hl hr kk)
          · by_cases g12 : v.toInt ≤ 37
            · by_cases g14 : v.toInt ≤ 36
              · have hv : v.toInt = 36 := by omega
                exact lv_tableIn (off := 1189) (tgt := 1222) hx hb dL_law_33 h1 h2 (by rw [hv] <;> rfl) (by decide) (cs_alarm lc hL hi hz hs hI hl hr kk)
              · have hv : v.toInt = 37 := by omega
                exact lv_tableIn (off := 1212) (tgt := 1245) hx hb dL_law_33 h1 h2 (by rw [hv] <;> rfl) (by decide) (cs_rises lc hL hi hz hs hI hl hr kk)
            · have hv : v.toInt = 38 := by omega
              exact lv_tableIn (off := 1235) (tgt := 1268) hx hb dL_law_33 h1 h2 (by rw [hv] <;> rfl) (by decide) (cs_tell lc hL hi hz hs hI hl hr kk)
      · by_cases g8 : v.toInt ≤ 44
        · by_cases g10 : v.toInt ≤ 41
          · by_cases g12 : v.toInt ≤ 40
            · by_cases g14 : v.toInt ≤ 39
              · have hv : v.toInt = 39 := by omega
                exact lv_tableIn (off := 1248) (tgt := 1281) hx hb dL_law_33 h1 h2 (by rw [hv] <;> rfl) (by decide) (cs_octet lc hL hi hz hs hI hl hr kk)
              · have hv : v.toInt = 40 := by omega
                exact lv_tableIn (off := 1271) (tgt := 1304) hx hb dL_law_33 h1 h2 (by rw [hv] <;> rfl) (by decide) (cs_open lc hL hi hz hs hI hl hr kk)
            · have hv : v.toInt = 41 := by omega
              exact lv_tableIn (off := 1294) (tgt := 1327) hx hb dL_law_33 h1 h2 (by rw [hv] <;> rfl) (by decide) (cs_infer lc hL hi hz hs hI hl hr kk)
          · by_cases g12 : v.toInt ≤ 43
            · by_cases g14 : v.toInt ≤ 42
              · have hv : v.toInt = 42 := by omega
                exact lv_tableIn (off := 1317) (tgt := 1350) hx hb dL_law_33 h1 h2 (by rw [hv] <;> rfl) (by decide) (cs_decide lc hL hi hz hs hI hl hr kk)
              · have hv : v.toInt = 43 := by omega
                exact lv_tableIn (off := 1350) (tgt := 1383) hx hb dL_law_33 h1 h2 (by rw [hv] <;> rfl) (by decide) (cs_decision lc hL hi hz hs hI hl hr kk)
            · have hv : v.toInt = 44 := by omega
              exact lv_tableIn (off := 1383) (tgt := 1416) hx hb dL_law_33 h1 h2 (by rw [hv] <;> rfl) (by decide) (cs_outcome lc hL hi hz hs hI hl hr kk)
        · by_cases g10 : v.toInt ≤ 47
          · by_cases g12 : v.toInt ≤ 46
            · by_cases g14 : v.toInt ≤ 45
              · have hv : v.toInt = 45 := by omega
                exact lv_tableIn (off := 1416) (tgt := 1449) hx hb dL_law_33 h1 h2 (by rw [hv] <;> rfl) (by decide) (cs_overrides lc hL hi hz hs hI hl hr kk)
              · have hv : v.toInt = 46 := by omega
                exact lv_tableIn (off := 1439) (tgt := 1472) hx hb dL_law_33 h1 h2 (by rw [hv] <;> rfl) (by decide) (cs_learn lc hL hi hz hs hI hl hr kk)
            · have hv : v.toInt = 47 := by omega
              exact lv_tableIn (off := 1452) (tgt := 1485) hx hb dL_law_33 h1 h2 (by rw [hv] <;> rfl) (by decide) (cs_adds lc hL hi hz hs hI hl hr kk)
          · by_cases g12 : v.toInt ≤ 49
            · by_cases g14 : v.toInt ≤ 48
              · have hv : v.toInt = 48 := by omega
                exact lv_tableIn (off := 1495) (tgt := 1528) hx hb dL_law_33 h1 h2 (by rw [hv] <;> rfl) (by decide) (cs_sets lc hL hi hz hs hI hl hr kk)
              · have hv : v.toInt = 49 := by omega
                exact lv_tableIn (off := 1528) (tgt := 1561) hx hb dL_law_33 h1 h2 (by rw [hv] <;> rfl) (by decide) (cs_costs lc hL hi hz hs hI hl hr kk)
            · have hv : v.toInt = 50 := by omega
              exact lv_tableIn (off := 1571) (tgt := 1604) hx hb dL_law_33 h1 h2 (by rw [hv] <;> rfl) (by decide) (cs_undo lc hL hi hz hs hI hl hr kk)
