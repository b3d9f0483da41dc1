theorem dX5_errorOf_0 : decode cX5_errorOf 0 = .ok (.aload_n 0, 1) := by decide +kernel
theorem dX5_errorOf_1 : decode cX5_errorOf 1 = .ok (.getfield 85, 3) := by decide +kernel
theorem dX5_errorOf_4 : decode cX5_errorOf 4 = .ok (.ifCond .ne 14, 3) := by decide +kernel
theorem dX5_errorOf_18 : decode cX5_errorOf 18 = .ok (.getstatic 152, 3) := by decide +kernel
theorem dX5_errorOf_21 : decode cX5_errorOf 21 = .ok (.aload_n 0, 1) := by decide +kernel
theorem dX5_errorOf_22 : decode cX5_errorOf 22 = .ok (.getfield 78, 3) := by decide +kernel
theorem dX5_errorOf_25 : decode cX5_errorOf 25 = .ok (.iaload, 1) := by decide +kernel
theorem dX5_errorOf_26 : decode cX5_errorOf 26 = .ok (.sipush 218, 3) := by decide +kernel
theorem dX5_errorOf_29 : decode cX5_errorOf 29 = .ok (.iand, 1) := by decide +kernel
theorem dX5_errorOf_30 : decode cX5_errorOf 30 = .ok (.istore 4, 2) := by decide +kernel
theorem dX5_errorOf_32 : decode cX5_errorOf 32 = .ok (.iload 4, 2) := by decide +kernel
theorem dX5_errorOf_34 : decode cX5_errorOf 34 = .ok (.iload_n 1, 1) := by decide +kernel
theorem dX5_errorOf_35 : decode cX5_errorOf 35 = .ok (.ishr, 1) := by decide +kernel
theorem dX5_errorOf_36 : decode cX5_errorOf 36 = .ok (.iconst 1, 1) := by decide +kernel
theorem dX5_errorOf_37 : decode cX5_errorOf 37 = .ok (.iand, 1) := by decide +kernel
theorem dX5_errorOf_38 : decode cX5_errorOf 38 = .ok (.ifCond .ne 5, 3) := by decide +kernel
theorem dX5_errorOf_43 : decode cX5_errorOf 43 = .ok (.iload_n 1, 1) := by decide +kernel
theorem dX5_errorOf_44 : decode cX5_errorOf 44 = .ok (.iconst 1, 1) := by decide +kernel
theorem dX5_errorOf_45 : decode cX5_errorOf 45 = .ok (.if_icmp .ne 14, 3) := by decide +kernel
theorem dX5_errorOf_59 : decode cX5_errorOf 59 = .ok (.iload_n 1, 1) := by decide +kernel
theorem dX5_errorOf_60 : decode cX5_errorOf 60 = .ok (.iconst 2, 1) := by decide +kernel
theorem dX5_errorOf_61 : decode cX5_errorOf 61 = .ok (.if_icmp .ne 57, 3) := by decide +kernel
theorem dX5_errorOf_118 : decode cX5_errorOf 118 = .ok (.aload_n 0, 1) := by decide +kernel
theorem dX5_errorOf_119 : decode cX5_errorOf 119 = .ok (.iload_n 1, 1) := by decide +kernel
theorem dX5_errorOf_120 : decode cX5_errorOf 120 = .ok (.invokevirtual 167, 3) := by decide +kernel
theorem dX5_errorOf_123 : decode cX5_errorOf 123 = .ok (.ifCond .eq 7, 3) := by decide +kernel
theorem dX5_errorOf_130 : decode cX5_errorOf 130 = .ok (.iconst 5, 1) := by decide +kernel
theorem dX5_errorOf_131 : decode cX5_errorOf 131 = .ok (.ireturn, 1) := by decide +kernel
theorem dX5_errorOf_126 : decode cX5_errorOf 126 = .ok (.iconst 0, 1) := by decide +kernel
theorem dX5_errorOf_127 : decode cX5_errorOf 127 = .ok (.goto 4, 3) := by decide +kernel
theorem dX5_errorOf_64 : decode cX5_errorOf 64 = .ok (.aload_n 0, 1) := by decide +kernel
theorem dX5_errorOf_65 : decode cX5_errorOf 65 = .ok (.iload_n 2, 1) := by decide +kernel
theorem dX5_errorOf_66 : decode cX5_errorOf 66 = .ok (.iload_n 3, 1) := by decide +kernel
theorem dX5_errorOf_67 : decode cX5_errorOf 67 = .ok (.invokevirtual 155, 3) := by decide +kernel
theorem dX5_errorOf_70 : decode cX5_errorOf 70 = .ok (.istore 5, 2) := by decide +kernel
theorem dX5_errorOf_72 : decode cX5_errorOf 72 = .ok (.iload 5, 2) := by decide +kernel
theorem dX5_errorOf_74 : decode cX5_errorOf 74 = .ok (.iconst 1, 1) := by decide +kernel
theorem dX5_errorOf_75 : decode cX5_errorOf 75 = .ok (.if_icmp .lt 9, 3) := by decide +kernel
theorem dX5_errorOf_84 : decode cX5_errorOf 84 = .ok (.iconst 3, 1) := by decide +kernel
theorem dX5_errorOf_85 : decode cX5_errorOf 85 = .ok (.ireturn, 1) := by decide +kernel
theorem dX5_errorOf_78 : decode cX5_errorOf 78 = .ok (.iload 5, 2) := by decide +kernel
theorem dX5_errorOf_80 : decode cX5_errorOf 80 = .ok (.iconst 4, 1) := by decide +kernel
theorem dX5_errorOf_81 : decode cX5_errorOf 81 = .ok (.if_icmp .le 5, 3) := by decide +kernel
theorem dX5_errorOf_86 : decode cX5_errorOf 86 = .ok (.aload_n 0, 1) := by decide +kernel
theorem dX5_errorOf_87 : decode cX5_errorOf 87 = .ok (.getfield 54, 3) := by decide +kernel
theorem dX5_errorOf_90 : decode cX5_errorOf 90 = .ok (.getfield 158, 3) := by decide +kernel
theorem dX5_errorOf_93 : decode cX5_errorOf 93 = .ok (.ifCond .le 25, 3) := by decide +kernel
theorem dX5_errorOf_96 : decode cX5_errorOf 96 = .ok (.aload_n 0, 1) := by decide +kernel
theorem dX5_errorOf_97 : decode cX5_errorOf 97 = .ok (.getfield 45, 3) := by decide +kernel
theorem dX5_errorOf_100 : decode cX5_errorOf 100 = .ok (.aload_n 0, 1) := by decide +kernel
theorem dX5_errorOf_101 : decode cX5_errorOf 101 = .ok (.getfield 54, 3) := by decide +kernel
theorem dX5_errorOf_104 : decode cX5_errorOf 104 = .ok (.getfield 161, 3) := by decide +kernel
theorem dX5_errorOf_107 : decode cX5_errorOf 107 = .ok (.aaload, 1) := by decide +kernel
theorem dX5_errorOf_108 : decode cX5_errorOf 108 = .ok (.getfield 164, 3) := by decide +kernel
theorem dX5_errorOf_111 : decode cX5_errorOf 111 = .ok (.iload 5, 2) := by decide +kernel
theorem dX5_errorOf_113 : decode cX5_errorOf 113 = .ok (.if_icmp .eq 5, 3) := by decide +kernel
theorem dX5_errorOf_116 : decode cX5_errorOf 116 = .ok (.iconst 4, 1) := by decide +kernel
theorem dX5_errorOf_117 : decode cX5_errorOf 117 = .ok (.ireturn, 1) := by decide +kernel
theorem dX5_errorOf_48 : decode cX5_errorOf 48 = .ok (.aload_n 0, 1) := by decide +kernel
theorem dX5_errorOf_49 : decode cX5_errorOf 49 = .ok (.iload_n 2, 1) := by decide +kernel
theorem dX5_errorOf_50 : decode cX5_errorOf 50 = .ok (.iload_n 3, 1) := by decide +kernel
theorem dX5_errorOf_51 : decode cX5_errorOf 51 = .ok (.invokevirtual 127, 3) := by decide +kernel
theorem dX5_errorOf_54 : decode cX5_errorOf 54 = .ok (.ifCond .ne 5, 3) := by decide +kernel
theorem dX5_errorOf_57 : decode cX5_errorOf 57 = .ok (.iconst 2, 1) := by decide +kernel
theorem dX5_errorOf_58 : decode cX5_errorOf 58 = .ok (.ireturn, 1) := by decide +kernel
theorem dX5_errorOf_41 : decode cX5_errorOf 41 = .ok (.iconst 1, 1) := by decide +kernel
theorem dX5_errorOf_42 : decode cX5_errorOf 42 = .ok (.ireturn, 1) := by decide +kernel
theorem dX5_errorOf_7 : decode cX5_errorOf 7 = .ok (.getstatic 152, 3) := by decide +kernel
theorem dX5_errorOf_10 : decode cX5_errorOf 10 = .ok (.aload_n 0, 1) := by decide +kernel
theorem dX5_errorOf_11 : decode cX5_errorOf 11 = .ok (.getfield 78, 3) := by decide +kernel
theorem dX5_errorOf_14 : decode cX5_errorOf 14 = .ok (.iaload, 1) := by decide +kernel
theorem dX5_errorOf_15 : decode cX5_errorOf 15 = .ok (.goto 15, 3) := by decide +kernel
theorem gw_X5_hasRoom : wsX5_hasRoom.all goodWord = true := by decide +kernel
theorem gX5_errorOf_X5_hasRoom : GoodIn wsX5_errorOf (wsV RX5 167 RX5 yX5_hasRoom wsX5_hasRoom) := goodIn_app (goodIn_sub (List.forall_mem_cons.mpr ⟨(List.mem_cons_of_mem _ (List.mem_append_left _ (List.mem_append_left _ (List.mem_append_left _ (List.mem_append_left _ (List.mem_append_right _ lm1)))))), List.forall_mem_cons.mpr ⟨(List.mem_cons_of_mem _ (List.mem_append_left _ (List.mem_append_left _ (List.mem_append_left _ (List.mem_append_left _ (List.mem_append_right _ lm2)))))), List.forall_mem_cons.mpr ⟨(List.mem_cons_of_mem _ (List.mem_append_left _ (List.mem_append_left _ (List.mem_append_left _ (List.mem_append_left _ (List.mem_append_right _ lm3)))))), List.forall_mem_cons.mpr ⟨(List.mem_cons_of_mem _ (List.mem_append_left _ (List.mem_append_left _ (List.mem_append_left _ (List.mem_append_left _ (List.mem_append_left _ lm11)))))), (fun _ h => absurd h List.not_mem_nil)⟩⟩⟩⟩) (by decide +kernel)) (goodIn_sub (by unfold wsX5_hasRoom; exact List.forall_mem_cons.mpr ⟨(List.mem_cons_of_mem _ (List.mem_append_left _ (List.mem_append_left _ (List.mem_append_left _ (List.mem_append_left _ (List.mem_append_right _ lm4)))))), List.forall_mem_append.mpr ⟨List.forall_mem_cons.mpr ⟨(List.mem_cons_of_mem _ (List.mem_append_left _ (List.mem_append_left _ (List.mem_append_left _ (List.mem_append_left _ (List.mem_append_right _ lm5)))))), List.forall_mem_cons.mpr ⟨(List.mem_cons_of_mem _ (List.mem_append_left _ (List.mem_append_left _ (List.mem_append_left _ (List.mem_append_left _ (List.mem_append_right _ lm6)))))), List.forall_mem_cons.mpr ⟨(List.mem_cons_of_mem _ (List.mem_append_left _ (List.mem_append_left _ (List.mem_append_left _ (List.mem_append_left _ (List.mem_append_right _ lm7)))))), List.forall_mem_cons.mpr ⟨(List.mem_cons_of_mem _ (List.mem_append_left _ (List.mem_append_left _ (List.mem_append_left _ (List.mem_append_left _ (List.mem_append_right _ lm8)))))), List.forall_mem_cons.mpr ⟨(List.mem_cons_of_mem _ (List.mem_append_left _ (List.mem_append_left _ (List.mem_append_left _ (List.mem_append_left _ (List.mem_append_right _ lm9)))))), (fun _ h => absurd h List.not_mem_nil)⟩⟩⟩⟩⟩, (fun _ h => (List.mem_cons_of_mem _ (List.mem_append_left _ (List.mem_append_left _ (List.mem_append_left _ (List.mem_append_right _ h))))))⟩⟩) gw_X5_hasRoom)
theorem gw_X5_widthOf : wsX5_widthOf.all goodWord = true := by decide +kernel
theorem gX5_errorOf_X5_widthOf : GoodIn wsX5_errorOf (wsV RX5 155 RX5 yX5_widthOf wsX5_widthOf) := goodIn_app (goodIn_sub (List.forall_mem_cons.mpr ⟨(List.mem_cons_of_mem _ (List.mem_append_left _ (List.mem_append_left _ (List.mem_append_left _ (List.mem_append_left _ (List.mem_append_left _ lm21)))))), List.forall_mem_cons.mpr ⟨(List.mem_cons_of_mem _ (List.mem_append_left _ (List.mem_append_left _ (List.mem_append_left _ (List.mem_append_left _ (List.mem_append_left _ lm22)))))), List.forall_mem_cons.mpr ⟨(List.mem_cons_of_mem _ (List.mem_append_left _ (List.mem_append_left _ (List.mem_append_left _ (List.mem_append_left _ (List.mem_append_left _ lm23)))))), List.forall_mem_cons.mpr ⟨(List.mem_cons_of_mem _ (List.mem_append_left _ (List.mem_append_left _ (List.mem_append_left _ (List.mem_append_left _ (List.mem_append_left _ lm11)))))), (fun _ h => absurd h List.not_mem_nil)⟩⟩⟩⟩) (by decide +kernel)) (goodIn_sub (by unfold wsX5_widthOf; exact List.forall_mem_cons.mpr ⟨(List.mem_cons_of_mem _ (List.mem_append_left _ (List.mem_append_left _ (List.mem_append_left _ (List.mem_append_left _ (List.mem_append_right _ lm0)))))), List.forall_mem_append.mpr ⟨List.forall_mem_append.mpr ⟨List.forall_mem_cons.mpr ⟨(List.mem_cons_of_mem _ (List.mem_append_left _ (List.mem_append_left _ (List.mem_append_left _ (List.mem_append_left _ (List.mem_append_left _ lm13)))))), List.forall_mem_cons.mpr ⟨(List.mem_cons_of_mem _ (List.mem_append_left _ (List.mem_append_left _ (List.mem_append_left _ (List.mem_append_left _ (List.mem_append_left _ lm14)))))), List.forall_mem_cons.mpr ⟨(List.mem_cons_of_mem _ (List.mem_append_left _ (List.mem_append_left _ (List.mem_append_left _ (List.mem_append_left _ (List.mem_append_left _ lm15)))))), List.forall_mem_cons.mpr ⟨(List.mem_cons_of_mem _ (List.mem_append_left _ (List.mem_append_left _ (List.mem_append_left _ (List.mem_append_left _ (List.mem_append_left _ lm16)))))), List.forall_mem_cons.mpr ⟨(List.mem_cons_of_mem _ (List.mem_append_left _ (List.mem_append_left _ (List.mem_append_left _ (List.mem_append_left _ (List.mem_append_left _ lm17)))))), List.forall_mem_cons.mpr ⟨(List.mem_cons_of_mem _ (List.mem_append_left _ (List.mem_append_left _ (List.mem_append_left _ (List.mem_append_left _ (List.mem_append_left _ lm18)))))), List.forall_mem_cons.mpr ⟨(List.mem_cons_of_mem _ (List.mem_append_left _ (List.mem_append_left _ (List.mem_append_left _ (List.mem_append_left _ (List.mem_append_left _ lm19)))))), List.forall_mem_cons.mpr ⟨(List.mem_cons_of_mem _ (List.mem_append_left _ (List.mem_append_left _ (List.mem_append_left _ (List.mem_append_left _ (List.mem_append_left _ lm20)))))), (fun _ h => absurd h List.not_mem_nil)⟩⟩⟩⟩⟩⟩⟩⟩, (fun _ h => (List.mem_cons_of_mem _ (List.mem_append_left _ (List.mem_append_left _ (List.mem_append_left _ (List.mem_append_right _ h))))))⟩, (fun _ h => (List.mem_cons_of_mem _ (List.mem_append_right _ h)))⟩⟩) gw_X5_widthOf)
theorem gw_X5_tagsOf : wsX5_tagsOf.all goodWord = true := by decide +kernel
theorem gX5_errorOf_X5_tagsOf : GoodIn wsX5_errorOf (wsV RX5 127 RX5 yX5_tagsOf wsX5_tagsOf) := goodIn_app (goodIn_sub (List.forall_mem_cons.mpr ⟨(List.mem_cons_of_mem _ (List.mem_append_left _ (List.mem_append_left _ (List.mem_append_left _ (List.mem_append_left _ (List.mem_append_left _ lm8)))))), List.forall_mem_cons.mpr ⟨(List.mem_cons_of_mem _ (List.mem_append_left _ (List.mem_append_left _ (List.mem_append_left _ (List.mem_append_left _ (List.mem_append_left _ lm9)))))), List.forall_mem_cons.mpr ⟨(List.mem_cons_of_mem _ (List.mem_append_left _ (List.mem_append_left _ (List.mem_append_left _ (List.mem_append_left _ (List.mem_append_left _ lm10)))))), List.forall_mem_cons.mpr ⟨(List.mem_cons_of_mem _ (List.mem_append_left _ (List.mem_append_left _ (List.mem_append_left _ (List.mem_append_left _ (List.mem_append_left _ lm11)))))), (fun _ h => absurd h List.not_mem_nil)⟩⟩⟩⟩) (by decide +kernel)) (goodIn_sub (by unfold wsX5_tagsOf; exact List.forall_mem_cons.mpr ⟨(List.mem_cons_of_mem _ (List.mem_append_left _ (List.mem_append_left _ (List.mem_append_left _ (List.mem_append_left _ (List.mem_append_left _ lm12)))))), List.forall_mem_append.mpr ⟨List.forall_mem_append.mpr ⟨List.forall_mem_cons.mpr ⟨(List.mem_cons_of_mem _ (List.mem_append_left _ (List.mem_append_left _ (List.mem_append_left _ (List.mem_append_left _ (List.mem_append_left _ lm13)))))), List.forall_mem_cons.mpr ⟨(List.mem_cons_of_mem _ (List.mem_append_left _ (List.mem_append_left _ (List.mem_append_left _ (List.mem_append_left _ (List.mem_append_left _ lm14)))))), List.forall_mem_cons.mpr ⟨(List.mem_cons_of_mem _ (List.mem_append_left _ (List.mem_append_left _ (List.mem_append_left _ (List.mem_append_left _ (List.mem_append_left _ lm15)))))), List.forall_mem_cons.mpr ⟨(List.mem_cons_of_mem _ (List.mem_append_left _ (List.mem_append_left _ (List.mem_append_left _ (List.mem_append_left _ (List.mem_append_left _ lm16)))))), List.forall_mem_cons.mpr ⟨(List.mem_cons_of_mem _ (List.mem_append_left _ (List.mem_append_left _ (List.mem_append_left _ (List.mem_append_left _ (List.mem_append_left _ lm17)))))), List.forall_mem_cons.mpr ⟨(List.mem_cons_of_mem _ (List.mem_append_left _ (List.mem_append_left _ (List.mem_append_left _ (List.mem_append_left _ (List.mem_append_left _ lm18)))))), List.forall_mem_cons.mpr ⟨(List.mem_cons_of_mem _ (List.mem_append_left _ (List.mem_append_left _ (List.mem_append_left _ (List.mem_append_left _ (List.mem_append_left _ lm19)))))), List.forall_mem_cons.mpr ⟨(List.mem_cons_of_mem _ (List.mem_append_left _ (List.mem_append_left _ (List.mem_append_left _ (List.mem_append_left _ (List.mem_append_left _ lm20)))))), (fun _ h => absurd h List.not_mem_nil)⟩⟩⟩⟩⟩⟩⟩⟩, (fun _ h => (List.mem_cons_of_mem _ (List.mem_append_left _ (List.mem_append_left _ (List.mem_append_left _ (List.mem_append_right _ h))))))⟩, (fun _ h => (List.mem_cons_of_mem _ (List.mem_append_right _ h)))⟩⟩) gw_X5_tagsOf)
set_option maxHeartbeats 2000000 in
set_option maxRecDepth 100000 in
theorem k_errorOf (l : Launch) (D : va_G) (g : Nat → Nat) (ka : Nat → ClassId) (ad : Nat → Nat) (i : Nat → Nat → Int32) (r : Nat → Nat → Nat) (L : Nat → Nat → Int64) (d : Nat → Nat → UInt64) (x : Int32) (y : Int32) (z : Int32) (hO : OkI i) (hR : RS r) (sz : Nat) (hx0 : 1 ≤ x.toInt) (hx1 : x.toInt ≤ 9) (hy0 : 0 ≤ y.toInt) (hyz : y.toInt < z.toInt) (hzs : z.toInt ≤ (i 4 1).toInt) (hPO : PO i) (hQI : QI i (r 3 17) (r 3 18)) : Met l yX5_errorOf wsX5_errorOf ({ frames := 2, cells := 0, slots := 0, locals := 47 }) (va_Pc [.ref (g 3), .int x, .int y, .int z] (sj_B D (hwc g ka i r L d) (hT ka) sz (gx ad (va_A (hwc g ka i r L d) sz)))) (sj_Qi (S := Unit) D (fun v u => ((0 : Int) ≤ v.toInt ∧ v.toInt ≤ 5) ∧ (erQ i (r 3 18) x.toInt (tagW (lnL (i 5) y.toInt z.toInt) 0).toInt (wid (lnL (i 5) y.toInt z.toInt)) v.toInt)) (fun _ => hwc g ka i r L d) (fun _ => []) (va_A (hwc g ka i r L d) sz)) 0 0 (va_A (hwc g ka i r L d) sz) := by
  refine x_met (Ex := gx ad) (cc := cX5_errorOf) (maxL := 6) (ret := (some .int)) (by decide) rfl (Nat.le_of_ble_eq_true rfl) ?_
  intro p e s m below meth c A ls hx hb hr hml hts hown hlocks hA hS hH hK hE hl
  have hown : s.vm.findClass RX5 = some m.cls := hown
  have in4 : ∀ w ∈ wsX40, w ∈ wsX5_errorOf := (fun _ h => (List.mem_cons_of_mem _ (List.mem_append_left _ (List.mem_append_left _ (List.mem_append_right _ h)))))
  have in5 : ∀ w ∈ wsX50, w ∈ wsX5_errorOf := (fun _ h => (List.mem_cons_of_mem _ (List.mem_append_left _ (List.mem_append_left _ (List.mem_append_left _ (List.mem_append_right _ h))))))
  have in6 : ∀ w ∈ wsX60, w ∈ wsX5_errorOf := (fun _ h => (List.mem_cons_of_mem _ (List.mem_append_left _ (List.mem_append_right _ h))))
  have wd0 := hts (.fieldLink RX5 85 "StoryDesk$Reading" "waitingTags" "I") (List.mem_cons_of_mem _ (List.mem_append_left _ (List.mem_append_left _ (List.mem_append_left _ (List.mem_append_left _ (List.mem_append_left _ lm0))))))
  have wd1 := hts (.fieldLink RX5 152 "StoryDesk$Reading" "MAY_COME" "[I") (List.mem_cons_of_mem _ (List.mem_append_left _ (List.mem_append_left _ (List.mem_append_left _ (List.mem_append_left _ (List.mem_append_left _ lm1))))))
  have wd2 := hts (.fieldLink RX5 78 "StoryDesk$Reading" "state" "I") (List.mem_cons_of_mem _ (List.mem_append_left _ (List.mem_append_left _ (List.mem_append_left _ (List.mem_append_left _ (List.mem_append_left _ lm2))))))
  have wd3 := hts (.fieldLink RX5 54 "StoryDesk$Reading" "table" "LStoryDesk$Part;") (List.mem_cons_of_mem _ (List.mem_append_left _ (List.mem_append_left _ (List.mem_append_left _ (List.mem_append_left _ (List.mem_append_left _ lm3))))))
  have wd4 := hts (.fieldLink RX5 158 "StoryDesk$Part" "count" "I") (List.mem_cons_of_mem _ (List.mem_append_left _ (List.mem_append_left _ (List.mem_append_left _ (List.mem_append_left _ (List.mem_append_left _ lm4))))))
  have wd5 := hts (.fieldLink RX5 45 "StoryDesk$Reading" "rows" "[LStoryDesk$Row;") (List.mem_cons_of_mem _ (List.mem_append_left _ (List.mem_append_left _ (List.mem_append_left _ (List.mem_append_left _ (List.mem_append_left _ lm5))))))
  have wd6 := hts (.fieldLink RX5 161 "StoryDesk$Part" "first" "I") (List.mem_cons_of_mem _ (List.mem_append_left _ (List.mem_append_left _ (List.mem_append_left _ (List.mem_append_left _ (List.mem_append_left _ lm6))))))
  have wd7 := hts (.fieldLink RX5 164 "StoryDesk$Row" "width" "I") (List.mem_cons_of_mem _ (List.mem_append_left _ (List.mem_append_left _ (List.mem_append_left _ (List.mem_append_left _ (List.mem_append_left _ lm7))))))
  have hl : lv_has ls 6 [(0, .ref (g 3)), (1, .int x), (2, .int y), (3, .int z)] := hl
  have hK : va_K D vwCl (hT ka) s := hK
  have hs4 : (0 : Int) ≤ (i 4 1).toInt ∧ (i 4 1).toInt ≤ 480 := hO 4 1
  have hQ0 := hQI.1
  have hzz : z.toInt ≤ 480 := by omega
  refine lv_aload_n hx hb dX5_errorOf_0 rfl (lv_at hl 0 rfl) ?_
  have bx_1 : (0 : Int) ≤ (i 3 16).toInt ∧ (i 3 16).toInt ≤ 65535 := hO 3 16
  refine h_geti (ci := 5) (C := RX5) (F := TX5) (N := 19) hx hb hts in5 hown hK hH (by decide) (rfl : kd 3 = 5) (by decide) rfl 16 (by decide) wd0 (fun _ h9 => h9) (by decide) rfl dX5_errorOf_1 ?_
  refine lv_if_ne (tgt := 18) hx hb dX5_errorOf_4 (by decide) (fun c_2 => ?_) (fun c_2 => ?_)
  · skip
    have h_3 := s_ne (rfl : (i 3 16).toInt = _) (show (0 : Int32).toInt = 0 from rfl) c_2
    refine va_gets hx hb hE.1.2.2.1 hS hown wd1 (fun _ h9 => h9) dX5_errorOf_18 ?_
    refine lv_aload_n hx hb dX5_errorOf_21 rfl (lv_at hl 0 rfl) ?_
    have bx_4 : (0 : Int) ≤ (i 3 15).toInt ∧ (i 3 15).toInt ≤ 8 := hO 3 15
    refine h_geti (ci := 5) (C := RX5) (F := TX5) (N := 19) hx hb hts in5 hown hK hH (by decide) (rfl : kd 3 = 5) (by decide) rfl 15 (by decide) wd2 (fun _ h9 => h9) (by decide) rfl dX5_errorOf_22 ?_
    refine va_ti hx hb hE.1.2.2.2.1 hS (s_vin9 (rfl : (i 3 15).toInt = _) (by omega) (by omega)) rfl dX5_errorOf_25 ?_
    refine lv_topi (fun z_5 ez_5 => ?_)
    have hz_5 := s_may (rfl : (i 3 15).toInt = _) (by omega) (by omega) ez_5
    refine lv_sipush (v := 218) hx hb dX5_errorOf_26 (by decide) ?_
    refine lv_iand hx hb dX5_errorOf_29 ?_
    refine lv_topi (fun z_6 ez_6 => ?_)
    refine lv_istore (lv' := [(4, .int z_6), (0, .ref (g 3)), (1, .int x), (2, .int y), (3, .int z)]) hx hb dX5_errorOf_30 hl (by decide) rfl (fun ls hl => ?_)
    refine lv_iload hx hb dX5_errorOf_32 (lv_at hl 0 rfl) ?_
    refine lv_iload_n hx hb dX5_errorOf_34 rfl (lv_at hl 2 rfl) ?_
    refine lv_ishr hx hb dX5_errorOf_35 ?_
    refine lv_topi (fun z_7 ez_7 => ?_)
    refine lv_iconst (v := 1) hx hb dX5_errorOf_36 (by decide) ?_
    refine lv_iand hx hb dX5_errorOf_37 ?_
    refine lv_topi (fun z_8 ez_8 => ?_)
    have hz_8 := s_and (k := 1) ez_8 (by decide +kernel)
    have hcm := may_v (k := x.toInt) (w := (i 3 16).toInt) hz_5 rfl (by omega) (by omega) ez_6 ez_7 ez_8
    refine lv_if_ne (tgt := 43) hx hb dX5_errorOf_38 (by decide) (fun c_9 => ?_) (fun c_9 => ?_)
    · skip
      have h_10 := s_ne (rfl : z_8.toInt = _) (show (0 : Int32).toInt = 0 from rfl) c_9
      have hcm2 := (hcm.resolve_left (fun q => by have := q.1; omega)).2
      refine lv_iload_n hx hb dX5_errorOf_43 rfl (lv_at hl 2 rfl) ?_
      refine lv_iconst (v := 1) hx hb dX5_errorOf_44 (by decide) ?_
      refine lv_icmp_ne (tgt := 59) hx hb dX5_errorOf_45 (by decide) (fun c_11 => ?_) (fun c_11 => ?_)
      · skip
        have h_12 := s_ne (rfl : x.toInt = _) (show (1 : Int32).toInt = 1 from rfl) c_11
        refine lv_iload_n hx hb dX5_errorOf_59 rfl (lv_at hl 2 rfl) ?_
        refine lv_iconst (v := 2) hx hb dX5_errorOf_60 (by decide) ?_
        refine lv_icmp_ne (tgt := 118) hx hb dX5_errorOf_61 (by decide) (fun c_13 => ?_) (fun c_13 => ?_)
        · skip
          have h_14 := s_ne (rfl : x.toInt = _) (show (2 : Int32).toInt = 2 from rfl) c_13
          refine lv_aload_n hx hb dX5_errorOf_118 rfl (lv_at hl 1 rfl) ?_
          refine lv_iload_n hx hb dX5_errorOf_119 rfl (lv_at hl 2 rfl) ?_
          refine x_calli (va_runV (As := [.int x]) (rest := []) ⟨hx, hb, hml, hown, hts⟩ (k_hasRoom l D g ka ad i r L d x hO hR s.heap.size (by first | omega | decide) (by first | omega | decide)) (cwV 1 hts gX5_errorOf_X5_hasRoom rfl rfl rfl (by decide +kernel) ⟨(Nat.le_of_ble_eq_true rfl), (Nat.le_of_ble_eq_true rfl)⟩) (x_preV (q := (RX5, TX5, 19)) hH hK (q_obj (by decide) (rfl : kd 3 = 5) (by decide)) rfl gxb (gxw hE hS (x_F hH hS hA))) rfl rfl hl.1 rfl (lv_room (Nat.le_of_ble_eq_true rfl)) dX5_errorOf_120 ⟨(Nat.le_of_ble_eq_true rfl), (Nat.le_of_ble_eq_true rfl)⟩) hH hS hA rfl rfl (fun r_15 _ H locs hw_16 hH hS => ?_)
          obtain ⟨hr_18, he_19⟩ := hw_16
          have hr_18 : (0 : Int) ≤ r_15.toInt ∧ r_15.toInt ≤ 1 := hr_18
          refine lv_if_eq (tgt := 130) hx hb dX5_errorOf_123 (by decide) (fun c_20 => ?_) (fun c_20 => ?_)
          · skip
            have h_21 := s_eq (rfl : r_15.toInt = _) (show (0 : Int32).toInt = 0 from rfl) c_20
            refine lv_iconst (v := 5) hx hb dX5_errorOf_130 (by decide) ?_
            have hlv_22 : (5 : Int32).toInt = 5 := rfl
            exact sj_zret hx hb hr hlocks rfl hS () ⟨⟨by decide, by decide⟩, (Or.inr ⟨hcm2, Or.inr ⟨by omega, Or.inr ⟨by omega, Or.inr ⟨(fun k9 => by first | exact absurd k9 (by omega) | exact Or.inl (by omega)), Or.inl ⟨(he_19.resolve_left (fun q9 => by have := q9.1; omega)).2, by omega⟩⟩⟩⟩⟩)⟩ hH (sj_Knil hK) (Nat.le_of_ble_eq_true rfl) (Nat.le_of_ble_eq_true rfl) dX5_errorOf_131
          · skip
            have h_23 := s_ne (rfl : r_15.toInt = _) (show (0 : Int32).toInt = 0 from rfl) c_20
            refine lv_iconst (v := 0) hx hb dX5_errorOf_126 (by decide) ?_
            refine lv_goto (tgt := 131) hx hb dX5_errorOf_127 (by decide) ?_
            have hlv_24 : (0 : Int32).toInt = 0 := rfl
            exact sj_zret hx hb hr hlocks rfl hS () ⟨⟨by decide, by decide⟩, (Or.inr ⟨hcm2, Or.inr ⟨by omega, Or.inr ⟨by omega, Or.inr ⟨(fun k9 => by first | exact absurd k9 (by omega) | exact Or.inl (by omega)), Or.inr ⟨(he_19.resolve_right (fun q9 => by have := q9.1; omega)).2, by omega⟩⟩⟩⟩⟩)⟩ hH (sj_Knil hK) (Nat.le_of_ble_eq_true rfl) (Nat.le_of_ble_eq_true rfl) dX5_errorOf_131
        · skip
          have h_25 := s_eq (rfl : x.toInt = _) (show (2 : Int32).toInt = 2 from rfl) c_13
          refine lv_aload_n hx hb dX5_errorOf_64 rfl (lv_at hl 1 rfl) ?_
          refine lv_iload_n hx hb dX5_errorOf_65 rfl (lv_at hl 3 rfl) ?_
          refine lv_iload_n hx hb dX5_errorOf_66 rfl (lv_at hl 4 rfl) ?_
          refine x_calli (va_runV (As := [.int y, .int z]) (rest := []) ⟨hx, hb, hml, hown, hts⟩ (k_widthOf l D g ka ad i r L d y z hO hR s.heap.size (by first | omega | decide) (by first | omega | decide) (by first | omega | decide)) (cwV 2 hts gX5_errorOf_X5_widthOf rfl rfl rfl (by decide +kernel) ⟨(Nat.le_of_ble_eq_true rfl), (Nat.le_of_ble_eq_true rfl)⟩) (x_preV (q := (RX5, TX5, 19)) hH hK (q_obj (by decide) (rfl : kd 3 = 5) (by decide)) rfl gxb (gxw hE hS (x_F hH hS hA))) rfl rfl hl.1 rfl (lv_room (Nat.le_of_ble_eq_true rfl)) dX5_errorOf_67 ⟨(Nat.le_of_ble_eq_true rfl), (Nat.le_of_ble_eq_true rfl)⟩) hH hS hA rfl rfl (fun r_26 _ H locs hw_27 hH hS => ?_)
          obtain ⟨hr_29, he_30⟩ := hw_27
          have hr_29 : (-1 : Int) ≤ r_26.toInt ∧ r_26.toInt ≤ 480 := hr_29
          refine lv_istore (lv' := [(5, .int r_26), (4, .int z_6), (0, .ref (g 3)), (1, .int x), (2, .int y), (3, .int z)]) hx hb dX5_errorOf_70 hl (by decide) rfl (fun ls hl => ?_)
          refine lv_iload hx hb dX5_errorOf_72 (lv_at hl 0 rfl) ?_
          refine lv_iconst (v := 1) hx hb dX5_errorOf_74 (by decide) ?_
          refine lv_icmp_lt (tgt := 84) hx hb dX5_errorOf_75 (by decide) (fun c_31 => ?_) (fun c_31 => ?_)
          · skip
            have h_32 := s_lt (rfl : r_26.toInt = _) (show (1 : Int32).toInt = 1 from rfl) c_31
            refine lv_iconst (v := 3) hx hb dX5_errorOf_84 (by decide) ?_
            have hlv_33 : (3 : Int32).toInt = 3 := rfl
            exact sj_zret hx hb hr hlocks rfl hS () ⟨⟨by decide, by decide⟩, (Or.inr ⟨hcm2, Or.inr ⟨by omega, Or.inl ⟨by omega, by omega, by omega⟩⟩⟩)⟩ hH (sj_Knil hK) (Nat.le_of_ble_eq_true rfl) (Nat.le_of_ble_eq_true rfl) dX5_errorOf_85
          · skip
            have h_34 := s_nlt (rfl : r_26.toInt = _) (show (1 : Int32).toInt = 1 from rfl) c_31
            refine lv_iload hx hb dX5_errorOf_78 (lv_at hl 0 rfl) ?_
            refine lv_iconst (v := 4) hx hb dX5_errorOf_80 (by decide) ?_
            refine lv_icmp_le (tgt := 86) hx hb dX5_errorOf_81 (by decide) (fun c_35 => ?_) (fun c_35 => ?_)
            · skip
              have h_36 := s_le (rfl : r_26.toInt = _) (show (4 : Int32).toInt = 4 from rfl) c_35
              refine lv_aload_n hx hb dX5_errorOf_86 rfl (lv_at hl 2 rfl) ?_
              refine h_getr (ci := 5) (C := RX5) (F := TX5) (N := 19) hx hb hts in5 hown hK hH (by decide) (rfl : kd 3 = 5) (by decide) rfl 18 (by decide) wd3 (fun _ h9 => h9) (by decide) rfl (t := (r 3 18)) rfl (lt_nK (by omega)) dX5_errorOf_87 ?_
              have pb_37 := bxp hO (p := (r 3 18)) (by omega) (by omega)
              have po_38 := hPO (r 3 18) (by omega) (by omega)
              have bx_39 : (0 : Int) ≤ (i (r 3 18) 3).toInt ∧ (i (r 3 18) 3).toInt ≤ 40 := by have h9 := hO (r 3 18) 3; rw [bx_part (by omega) (by omega) 3] at h9; exact h9
              refine h_geti (ci := 4) (C := RX4) (F := TX4) (N := 9) hx hb hts in4 hown hK hH (lt_nK (by omega)) (kd_part (by omega) (by omega)) (by decide) rfl 3 (by decide) wd4 (fun _ h9 => h9) (by decide) rfl dX5_errorOf_90 ?_
              refine lv_if_le (tgt := 118) hx hb dX5_errorOf_93 (by decide) (fun c_40 => ?_) (fun c_40 => ?_)
              · skip
                have h_41 := s_le (rfl : (i (r 3 18) 3).toInt = _) (show (0 : Int32).toInt = 0 from rfl) c_40
                refine lv_aload_n hx hb dX5_errorOf_118 rfl (lv_at hl 2 rfl) ?_
                refine lv_iload_n hx hb dX5_errorOf_119 rfl (lv_at hl 3 rfl) ?_
                refine x_calli (va_runV (As := [.int x]) (rest := []) ⟨hx, hb, hml, hown, hts⟩ (k_hasRoom l D g ka ad i r L d x hO hR H.size (by first | omega | decide) (by first | omega | decide)) (cwV 1 hts gX5_errorOf_X5_hasRoom rfl rfl rfl (by decide +kernel) ⟨(Nat.le_of_ble_eq_true rfl), (Nat.le_of_ble_eq_true rfl)⟩) (x_preV (q := (RX5, TX5, 19)) hH hK (q_obj (by decide) (rfl : kd 3 = 5) (by decide)) rfl gxb (gxw hE hS (x_F hH hS hA))) rfl rfl hl.1 rfl (lv_room (Nat.le_of_ble_eq_true rfl)) dX5_errorOf_120 ⟨(Nat.le_of_ble_eq_true rfl), (Nat.le_of_ble_eq_true rfl)⟩) hH hS hA rfl rfl (fun r_42 _ H locs hw_43 hH hS => ?_)
                obtain ⟨hr_45, he_46⟩ := hw_43
                have hr_45 : (0 : Int) ≤ r_42.toInt ∧ r_42.toInt ≤ 1 := hr_45
                refine lv_if_eq (tgt := 130) hx hb dX5_errorOf_123 (by decide) (fun c_47 => ?_) (fun c_47 => ?_)
                · skip
                  have h_48 := s_eq (rfl : r_42.toInt = _) (show (0 : Int32).toInt = 0 from rfl) c_47
                  refine lv_iconst (v := 5) hx hb dX5_errorOf_130 (by decide) ?_
                  have hlv_49 : (5 : Int32).toInt = 5 := rfl
                  exact sj_zret hx hb hr hlocks rfl hS () ⟨⟨by decide, by decide⟩, (Or.inr ⟨hcm2, Or.inr ⟨by omega, Or.inr ⟨by omega, Or.inr ⟨(fun k9 => by first | exact absurd k9 (by omega) | exact Or.inl (by omega)), Or.inl ⟨(he_46.resolve_left (fun q9 => by have := q9.1; omega)).2, by omega⟩⟩⟩⟩⟩)⟩ hH (sj_Knil hK) (Nat.le_of_ble_eq_true rfl) (Nat.le_of_ble_eq_true rfl) dX5_errorOf_131
                · skip
                  have h_50 := s_ne (rfl : r_42.toInt = _) (show (0 : Int32).toInt = 0 from rfl) c_47
                  refine lv_iconst (v := 0) hx hb dX5_errorOf_126 (by decide) ?_
                  refine lv_goto (tgt := 131) hx hb dX5_errorOf_127 (by decide) ?_
                  have hlv_51 : (0 : Int32).toInt = 0 := rfl
                  exact sj_zret hx hb hr hlocks rfl hS () ⟨⟨by decide, by decide⟩, (Or.inr ⟨hcm2, Or.inr ⟨by omega, Or.inr ⟨by omega, Or.inr ⟨(fun k9 => by first | exact absurd k9 (by omega) | exact Or.inl (by omega)), Or.inr ⟨(he_46.resolve_right (fun q9 => by have := q9.1; omega)).2, by omega⟩⟩⟩⟩⟩)⟩ hH (sj_Knil hK) (Nat.le_of_ble_eq_true rfl) (Nat.le_of_ble_eq_true rfl) dX5_errorOf_131
              · skip
                have h_52 := s_nle (rfl : (i (r 3 18) 3).toInt = _) (show (0 : Int32).toInt = 0 from rfl) c_40
                refine lv_aload_n hx hb dX5_errorOf_96 rfl (lv_at hl 2 rfl) ?_
                refine h_getr (ci := 5) (C := RX5) (F := TX5) (N := 19) hx hb hts in5 hown hK hH (by decide) (rfl : kd 3 = 5) (by decide) rfl 13 (by decide) wd5 (fun _ h9 => h9) (by decide) rfl (t := 12) (hR 3 13 rfl) (by decide) dX5_errorOf_97 ?_
                refine lv_aload_n hx hb dX5_errorOf_100 rfl (lv_at hl 2 rfl) ?_
                refine h_getr (ci := 5) (C := RX5) (F := TX5) (N := 19) hx hb hts in5 hown hK hH (by decide) (rfl : kd 3 = 5) (by decide) rfl 18 (by decide) wd3 (fun _ h9 => h9) (by decide) rfl (t := (r 3 18)) rfl (lt_nK (by omega)) dX5_errorOf_101 ?_
                have pb_53 := bxp hO (p := (r 3 18)) (by omega) (by omega)
                have po_54 := hPO (r 3 18) (by omega) (by omega)
                have bx_55 : (0 : Int) ≤ (i (r 3 18) 2).toInt ∧ (i (r 3 18) 2).toInt ≤ 40 := by have h9 := hO (r 3 18) 2; rw [bx_part (by omega) (by omega) 2] at h9; exact h9
                refine h_geti (ci := 4) (C := RX4) (F := TX4) (N := 9) hx hb hts in4 hown hK hH (lt_nK (by omega)) (kd_part (by omega) (by omega)) (by decide) rfl 2 (by decide) wd6 (fun _ h9 => h9) (by decide) rfl dX5_errorOf_104 ?_
                obtain ⟨j_56, ej_56, hj_56⟩ : ∃ j : Nat, ((i (r 3 18) 2)).toNatClampNeg = j ∧ (j : Int) = (i (r 3 18) 2).toInt := ⟨_, rfl, by rw [s_cl (rfl : (i (r 3 18) 2).toInt = _)]; omega⟩
                have lj_56 : j_56 < 40 := by omega
                have hrj : (i (r 3 18) 2).toInt.toNat = j_56 := by omega
                refine h_qald hx hb hK hH (by decide) (rfl : kd 12 = 24) (by decide) rfl (s_vin (N := 40) (rfl : (i (r 3 18) 2).toInt = _) (rfl : ln 12 = 40) (by omega) (by omega)) (t := (96 + 3 * j_56)) (by rw [ej_56]; exact (hR 12 j_56 rfl)) (lt_nK (by omega)) dX5_errorOf_107 ?_
                have bx_57 : (0 : Int) ≤ (i (96 + 3 * j_56) 2).toInt ∧ (i (96 + 3 * j_56) 2).toInt ≤ 4 := by have h9 := hO (96 + 3 * j_56) 2; rw [bx_row lj_56 2] at h9; exact h9
                refine h_geti (ci := 6) (C := RX6) (F := TX6) (N := 4) hx hb hts in6 hown hK hH (lt_nK (by omega)) (kd_row lj_56) (by decide) rfl 2 (by decide) wd7 (fun _ h9 => h9) (by decide) rfl dX5_errorOf_108 ?_
                refine lv_iload hx hb dX5_errorOf_111 (lv_at hl 0 rfl) ?_
                refine lv_icmp_eq (tgt := 118) hx hb dX5_errorOf_113 (by decide) (fun c_58 => ?_) (fun c_58 => ?_)
                · skip
                  have h_59 := s_eq (rfl : (i (96 + 3 * j_56) 2).toInt = _) (rfl : r_26.toInt = _) c_58
                  refine lv_aload_n hx hb dX5_errorOf_118 rfl (lv_at hl 2 rfl) ?_
                  refine lv_iload_n hx hb dX5_errorOf_119 rfl (lv_at hl 3 rfl) ?_
                  refine x_calli (va_runV (As := [.int x]) (rest := []) ⟨hx, hb, hml, hown, hts⟩ (k_hasRoom l D g ka ad i r L d x hO hR H.size (by first | omega | decide) (by first | omega | decide)) (cwV 1 hts gX5_errorOf_X5_hasRoom rfl rfl rfl (by decide +kernel) ⟨(Nat.le_of_ble_eq_true rfl), (Nat.le_of_ble_eq_true rfl)⟩) (x_preV (q := (RX5, TX5, 19)) hH hK (q_obj (by decide) (rfl : kd 3 = 5) (by decide)) rfl gxb (gxw hE hS (x_F hH hS hA))) rfl rfl hl.1 rfl (lv_room (Nat.le_of_ble_eq_true rfl)) dX5_errorOf_120 ⟨(Nat.le_of_ble_eq_true rfl), (Nat.le_of_ble_eq_true rfl)⟩) hH hS hA rfl rfl (fun r_60 _ H locs hw_61 hH hS => ?_)
                  obtain ⟨hr_63, he_64⟩ := hw_61
                  have hr_63 : (0 : Int) ≤ r_60.toInt ∧ r_60.toInt ≤ 1 := hr_63
                  refine lv_if_eq (tgt := 130) hx hb dX5_errorOf_123 (by decide) (fun c_65 => ?_) (fun c_65 => ?_)
                  · skip
                    have h_66 := s_eq (rfl : r_60.toInt = _) (show (0 : Int32).toInt = 0 from rfl) c_65
                    refine lv_iconst (v := 5) hx hb dX5_errorOf_130 (by decide) ?_
                    have hlv_67 : (5 : Int32).toInt = 5 := rfl
                    exact sj_zret hx hb hr hlocks rfl hS () ⟨⟨by decide, by decide⟩, (Or.inr ⟨hcm2, Or.inr ⟨by omega, Or.inr ⟨by omega, Or.inr ⟨(fun k9 => Or.inr (by rw [hrj]; omega)), Or.inl ⟨(he_64.resolve_left (fun q9 => by have := q9.1; omega)).2, by omega⟩⟩⟩⟩⟩)⟩ hH (sj_Knil hK) (Nat.le_of_ble_eq_true rfl) (Nat.le_of_ble_eq_true rfl) dX5_errorOf_131
                  · skip
                    have h_68 := s_ne (rfl : r_60.toInt = _) (show (0 : Int32).toInt = 0 from rfl) c_65
                    refine lv_iconst (v := 0) hx hb dX5_errorOf_126 (by decide) ?_
                    refine lv_goto (tgt := 131) hx hb dX5_errorOf_127 (by decide) ?_
                    have hlv_69 : (0 : Int32).toInt = 0 := rfl
                    exact sj_zret hx hb hr hlocks rfl hS () ⟨⟨by decide, by decide⟩, (Or.inr ⟨hcm2, Or.inr ⟨by omega, Or.inr ⟨by omega, Or.inr ⟨(fun k9 => Or.inr (by rw [hrj]; omega)), Or.inr ⟨(he_64.resolve_right (fun q9 => by have := q9.1; omega)).2, by omega⟩⟩⟩⟩⟩)⟩ hH (sj_Knil hK) (Nat.le_of_ble_eq_true rfl) (Nat.le_of_ble_eq_true rfl) dX5_errorOf_131
                · skip
                  have h_70 := s_ne (rfl : (i (96 + 3 * j_56) 2).toInt = _) (rfl : r_26.toInt = _) c_58
                  refine lv_iconst (v := 4) hx hb dX5_errorOf_116 (by decide) ?_
                  have hlv_71 : (4 : Int32).toInt = 4 := rfl
                  exact sj_zret hx hb hr hlocks rfl hS () ⟨⟨by decide, by decide⟩, (Or.inr ⟨hcm2, Or.inr ⟨by omega, Or.inr ⟨by omega, Or.inl ⟨by omega, fun q9 => q9.elim (fun q8 => by omega) (fun q8 => by rw [hrj] at q8; omega), by omega⟩⟩⟩⟩)⟩ hH (sj_Knil hK) (Nat.le_of_ble_eq_true rfl) (Nat.le_of_ble_eq_true rfl) dX5_errorOf_117
            · skip
              have h_72 := s_nle (rfl : r_26.toInt = _) (show (4 : Int32).toInt = 4 from rfl) c_35
              refine lv_iconst (v := 3) hx hb dX5_errorOf_84 (by decide) ?_
              have hlv_73 : (3 : Int32).toInt = 3 := rfl
              exact sj_zret hx hb hr hlocks rfl hS () ⟨⟨by decide, by decide⟩, (Or.inr ⟨hcm2, Or.inr ⟨by omega, Or.inl ⟨by omega, by omega, by omega⟩⟩⟩)⟩ hH (sj_Knil hK) (Nat.le_of_ble_eq_true rfl) (Nat.le_of_ble_eq_true rfl) dX5_errorOf_85
      · skip
        have h_74 := s_eq (rfl : x.toInt = _) (show (1 : Int32).toInt = 1 from rfl) c_11
        refine lv_aload_n hx hb dX5_errorOf_48 rfl (lv_at hl 1 rfl) ?_
        refine lv_iload_n hx hb dX5_errorOf_49 rfl (lv_at hl 3 rfl) ?_
        refine lv_iload_n hx hb dX5_errorOf_50 rfl (lv_at hl 4 rfl) ?_
        refine x_calli (va_runV (As := [.int y, .int z]) (rest := []) ⟨hx, hb, hml, hown, hts⟩ (k_tagsOf l D g ka ad i r L d y z hO hR s.heap.size (by first | omega | decide) (by first | omega | decide) (by first | omega | decide)) (cwV 2 hts gX5_errorOf_X5_tagsOf rfl rfl rfl (by decide +kernel) ⟨(Nat.le_of_ble_eq_true rfl), (Nat.le_of_ble_eq_true rfl)⟩) (x_preV (q := (RX5, TX5, 19)) hH hK (q_obj (by decide) (rfl : kd 3 = 5) (by decide)) rfl gxb (gxw hE hS (x_F hH hS hA))) rfl rfl hl.1 rfl (lv_room (Nat.le_of_ble_eq_true rfl)) dX5_errorOf_51 ⟨(Nat.le_of_ble_eq_true rfl), (Nat.le_of_ble_eq_true rfl)⟩) hH hS hA rfl rfl (fun r_75 _ H locs hw_76 hH hS => ?_)
        obtain ⟨hr_78, hx2_79⟩ := hw_76
        have hr_78 : (0 : Int) ≤ r_75.toInt ∧ r_75.toInt ≤ 65535 := hr_78
        have htg := congrArg Int32.toInt hx2_79
        refine lv_if_ne (tgt := 59) hx hb dX5_errorOf_54 (by decide) (fun c_80 => ?_) (fun c_80 => ?_)
        · skip
          have h_81 := s_ne (rfl : r_75.toInt = _) (show (0 : Int32).toInt = 0 from rfl) c_80
          refine lv_iload_n hx hb dX5_errorOf_59 rfl (lv_at hl 2 rfl) ?_
          refine lv_iconst (v := 2) hx hb dX5_errorOf_60 (by decide) ?_
          refine lv_icmp_ne (tgt := 118) hx hb dX5_errorOf_61 (by decide) (fun _ => ?_) (fun h => absurd h (p_ne (rfl : x.toInt = _) (show (2 : Int32).toInt = 2 from rfl) (by omega)))
          refine lv_aload_n hx hb dX5_errorOf_118 rfl (lv_at hl 1 rfl) ?_
          refine lv_iload_n hx hb dX5_errorOf_119 rfl (lv_at hl 2 rfl) ?_
          refine x_calli (va_runV (As := [.int x]) (rest := []) ⟨hx, hb, hml, hown, hts⟩ (k_hasRoom l D g ka ad i r L d x hO hR H.size (by first | omega | decide) (by first | omega | decide)) (cwV 1 hts gX5_errorOf_X5_hasRoom rfl rfl rfl (by decide +kernel) ⟨(Nat.le_of_ble_eq_true rfl), (Nat.le_of_ble_eq_true rfl)⟩) (x_preV (q := (RX5, TX5, 19)) hH hK (q_obj (by decide) (rfl : kd 3 = 5) (by decide)) rfl gxb (gxw hE hS (x_F hH hS hA))) rfl rfl hl.1 rfl (lv_room (Nat.le_of_ble_eq_true rfl)) dX5_errorOf_120 ⟨(Nat.le_of_ble_eq_true rfl), (Nat.le_of_ble_eq_true rfl)⟩) hH hS hA rfl rfl (fun r_82 _ H locs hw_83 hH hS => ?_)
          obtain ⟨hr_85, he_86⟩ := hw_83
          have hr_85 : (0 : Int) ≤ r_82.toInt ∧ r_82.toInt ≤ 1 := hr_85
          refine lv_if_eq (tgt := 130) hx hb dX5_errorOf_123 (by decide) (fun c_87 => ?_) (fun c_87 => ?_)
          · skip
            have h_88 := s_eq (rfl : r_82.toInt = _) (show (0 : Int32).toInt = 0 from rfl) c_87
            refine lv_iconst (v := 5) hx hb dX5_errorOf_130 (by decide) ?_
            have hlv_89 : (5 : Int32).toInt = 5 := rfl
            exact sj_zret hx hb hr hlocks rfl hS () ⟨⟨by decide, by decide⟩, (Or.inr ⟨hcm2, Or.inr ⟨by omega, Or.inr ⟨by omega, Or.inr ⟨(fun k9 => by first | exact absurd k9 (by omega) | exact Or.inl (by omega)), Or.inl ⟨(he_86.resolve_left (fun q9 => by have := q9.1; omega)).2, by omega⟩⟩⟩⟩⟩)⟩ hH (sj_Knil hK) (Nat.le_of_ble_eq_true rfl) (Nat.le_of_ble_eq_true rfl) dX5_errorOf_131
          · skip
            have h_90 := s_ne (rfl : r_82.toInt = _) (show (0 : Int32).toInt = 0 from rfl) c_87
            refine lv_iconst (v := 0) hx hb dX5_errorOf_126 (by decide) ?_
            refine lv_goto (tgt := 131) hx hb dX5_errorOf_127 (by decide) ?_
            have hlv_91 : (0 : Int32).toInt = 0 := rfl
            exact sj_zret hx hb hr hlocks rfl hS () ⟨⟨by decide, by decide⟩, (Or.inr ⟨hcm2, Or.inr ⟨by omega, Or.inr ⟨by omega, Or.inr ⟨(fun k9 => by first | exact absurd k9 (by omega) | exact Or.inl (by omega)), Or.inr ⟨(he_86.resolve_right (fun q9 => by have := q9.1; omega)).2, by omega⟩⟩⟩⟩⟩)⟩ hH (sj_Knil hK) (Nat.le_of_ble_eq_true rfl) (Nat.le_of_ble_eq_true rfl) dX5_errorOf_131
        · skip
          have h_92 := s_eq (rfl : r_75.toInt = _) (show (0 : Int32).toInt = 0 from rfl) c_80
          refine lv_iconst (v := 2) hx hb dX5_errorOf_57 (by decide) ?_
          have hlv_93 : (2 : Int32).toInt = 2 := rfl
          exact sj_zret hx hb hr hlocks rfl hS () ⟨⟨by decide, by decide⟩, (Or.inr ⟨hcm2, Or.inl ⟨by omega, by omega, by omega⟩⟩)⟩ hH (sj_Knil hK) (Nat.le_of_ble_eq_true rfl) (Nat.le_of_ble_eq_true rfl) dX5_errorOf_58
    · skip
      have h_94 := s_eq (rfl : z_8.toInt = _) (show (0 : Int32).toInt = 0 from rfl) c_9
      have hcm2 := (hcm.resolve_right (fun q => by have := q.1; omega)).2
      refine lv_iconst (v := 1) hx hb dX5_errorOf_41 (by decide) ?_
      have hlv_95 : (1 : Int32).toInt = 1 := rfl
      exact sj_zret hx hb hr hlocks rfl hS () ⟨⟨by decide, by decide⟩, (Or.inl ⟨hcm2, by omega⟩)⟩ hH (sj_Knil hK) (Nat.le_of_ble_eq_true rfl) (Nat.le_of_ble_eq_true rfl) dX5_errorOf_42
  · skip
    have h_96 := s_eq (rfl : (i 3 16).toInt = _) (show (0 : Int32).toInt = 0 from rfl) c_2
    refine va_gets hx hb hE.1.2.2.1 hS hown wd1 (fun _ h9 => h9) dX5_errorOf_7 ?_
    refine lv_aload_n hx hb dX5_errorOf_10 rfl (lv_at hl 0 rfl) ?_
    have bx_97 : (0 : Int) ≤ (i 3 15).toInt ∧ (i 3 15).toInt ≤ 8 := hO 3 15
    refine h_geti (ci := 5) (C := RX5) (F := TX5) (N := 19) hx hb hts in5 hown hK hH (by decide) (rfl : kd 3 = 5) (by decide) rfl 15 (by decide) wd2 (fun _ h9 => h9) (by decide) rfl dX5_errorOf_11 ?_
    refine va_ti hx hb hE.1.2.2.2.1 hS (s_vin9 (rfl : (i 3 15).toInt = _) (by omega) (by omega)) rfl dX5_errorOf_14 ?_
    refine lv_topi (fun z_98 ez_98 => ?_)
    have hz_98 := s_may (rfl : (i 3 15).toInt = _) (by omega) (by omega) ez_98
    refine lv_goto (tgt := 30) hx hb dX5_errorOf_15 (by decide) ?_
    refine lv_istore (lv' := [(4, .int z_98), (0, .ref (g 3)), (1, .int x), (2, .int y), (3, .int z)]) hx hb dX5_errorOf_30 hl (by decide) rfl (fun ls hl => ?_)
    refine lv_iload hx hb dX5_errorOf_32 (lv_at hl 0 rfl) ?_
    refine lv_iload_n hx hb dX5_errorOf_34 rfl (lv_at hl 2 rfl) ?_
    refine lv_ishr hx hb dX5_errorOf_35 ?_
    refine lv_topi (fun z_99 ez_99 => ?_)
    refine lv_iconst (v := 1) hx hb dX5_errorOf_36 (by decide) ?_
    refine lv_iand hx hb dX5_errorOf_37 ?_
    refine lv_topi (fun z_100 ez_100 => ?_)
    have hz_100 := s_and (k := 1) ez_100 (by decide +kernel)
    have hcm := may_w (k := x.toInt) (w := (i 3 16).toInt) hz_98 rfl (by omega) (by omega) ez_99 ez_100
    refine lv_if_ne (tgt := 43) hx hb dX5_errorOf_38 (by decide) (fun c_101 => ?_) (fun c_101 => ?_)
    · skip
      have h_102 := s_ne (rfl : z_100.toInt = _) (show (0 : Int32).toInt = 0 from rfl) c_101
      have hcm2 := (hcm.resolve_left (fun q => by have := q.1; omega)).2
      refine lv_iload_n hx hb dX5_errorOf_43 rfl (lv_at hl 2 rfl) ?_
      refine lv_iconst (v := 1) hx hb dX5_errorOf_44 (by decide) ?_
      refine lv_icmp_ne (tgt := 59) hx hb dX5_errorOf_45 (by decide) (fun c_103 => ?_) (fun c_103 => ?_)
      · skip
        have h_104 := s_ne (rfl : x.toInt = _) (show (1 : Int32).toInt = 1 from rfl) c_103
        refine lv_iload_n hx hb dX5_errorOf_59 rfl (lv_at hl 2 rfl) ?_
        refine lv_iconst (v := 2) hx hb dX5_errorOf_60 (by decide) ?_
        refine lv_icmp_ne (tgt := 118) hx hb dX5_errorOf_61 (by decide) (fun c_105 => ?_) (fun c_105 => ?_)
        · skip
          have h_106 := s_ne (rfl : x.toInt = _) (show (2 : Int32).toInt = 2 from rfl) c_105
          refine lv_aload_n hx hb dX5_errorOf_118 rfl (lv_at hl 1 rfl) ?_
          refine lv_iload_n hx hb dX5_errorOf_119 rfl (lv_at hl 2 rfl) ?_
          refine x_calli (va_runV (As := [.int x]) (rest := []) ⟨hx, hb, hml, hown, hts⟩ (k_hasRoom l D g ka ad i r L d x hO hR s.heap.size (by first | omega | decide) (by first | omega | decide)) (cwV 1 hts gX5_errorOf_X5_hasRoom rfl rfl rfl (by decide +kernel) ⟨(Nat.le_of_ble_eq_true rfl), (Nat.le_of_ble_eq_true rfl)⟩) (x_preV (q := (RX5, TX5, 19)) hH hK (q_obj (by decide) (rfl : kd 3 = 5) (by decide)) rfl gxb (gxw hE hS (x_F hH hS hA))) rfl rfl hl.1 rfl (lv_room (Nat.le_of_ble_eq_true rfl)) dX5_errorOf_120 ⟨(Nat.le_of_ble_eq_true rfl), (Nat.le_of_ble_eq_true rfl)⟩) hH hS hA rfl rfl (fun r_107 _ H locs hw_108 hH hS => ?_)
          obtain ⟨hr_110, he_111⟩ := hw_108
          have hr_110 : (0 : Int) ≤ r_107.toInt ∧ r_107.toInt ≤ 1 := hr_110
          refine lv_if_eq (tgt := 130) hx hb dX5_errorOf_123 (by decide) (fun c_112 => ?_) (fun c_112 => ?_)
          · skip
            have h_113 := s_eq (rfl : r_107.toInt = _) (show (0 : Int32).toInt = 0 from rfl) c_112
            refine lv_iconst (v := 5) hx hb dX5_errorOf_130 (by decide) ?_
            have hlv_114 : (5 : Int32).toInt = 5 := rfl
            exact sj_zret hx hb hr hlocks rfl hS () ⟨⟨by decide, by decide⟩, (Or.inr ⟨hcm2, Or.inr ⟨by omega, Or.inr ⟨by omega, Or.inr ⟨(fun k9 => by first | exact absurd k9 (by omega) | exact Or.inl (by omega)), Or.inl ⟨(he_111.resolve_left (fun q9 => by have := q9.1; omega)).2, by omega⟩⟩⟩⟩⟩)⟩ hH (sj_Knil hK) (Nat.le_of_ble_eq_true rfl) (Nat.le_of_ble_eq_true rfl) dX5_errorOf_131
          · skip
            have h_115 := s_ne (rfl : r_107.toInt = _) (show (0 : Int32).toInt = 0 from rfl) c_112
            refine lv_iconst (v := 0) hx hb dX5_errorOf_126 (by decide) ?_
            refine lv_goto (tgt := 131) hx hb dX5_errorOf_127 (by decide) ?_
            have hlv_116 : (0 : Int32).toInt = 0 := rfl
            exact sj_zret hx hb hr hlocks rfl hS () ⟨⟨by decide, by decide⟩, (Or.inr ⟨hcm2, Or.inr ⟨by omega, Or.inr ⟨by omega, Or.inr ⟨(fun k9 => by first | exact absurd k9 (by omega) | exact Or.inl (by omega)), Or.inr ⟨(he_111.resolve_right (fun q9 => by have := q9.1; omega)).2, by omega⟩⟩⟩⟩⟩)⟩ hH (sj_Knil hK) (Nat.le_of_ble_eq_true rfl) (Nat.le_of_ble_eq_true rfl) dX5_errorOf_131
        · skip
          have h_117 := s_eq (rfl : x.toInt = _) (show (2 : Int32).toInt = 2 from rfl) c_105
          refine lv_aload_n hx hb dX5_errorOf_64 rfl (lv_at hl 1 rfl) ?_
          refine lv_iload_n hx hb dX5_errorOf_65 rfl (lv_at hl 3 rfl) ?_
          refine lv_iload_n hx hb dX5_errorOf_66 rfl (lv_at hl 4 rfl) ?_
          refine x_calli (va_runV (As := [.int y, .int z]) (rest := []) ⟨hx, hb, hml, hown, hts⟩ (k_widthOf l D g ka ad i r L d y z hO hR s.heap.size (by first | omega | decide) (by first | omega | decide) (by first | omega | decide)) (cwV 2 hts gX5_errorOf_X5_widthOf rfl rfl rfl (by decide +kernel) ⟨(Nat.le_of_ble_eq_true rfl), (Nat.le_of_ble_eq_true rfl)⟩) (x_preV (q := (RX5, TX5, 19)) hH hK (q_obj (by decide) (rfl : kd 3 = 5) (by decide)) rfl gxb (gxw hE hS (x_F hH hS hA))) rfl rfl hl.1 rfl (lv_room (Nat.le_of_ble_eq_true rfl)) dX5_errorOf_67 ⟨(Nat.le_of_ble_eq_true rfl), (Nat.le_of_ble_eq_true rfl)⟩) hH hS hA rfl rfl (fun r_118 _ H locs hw_119 hH hS => ?_)
          obtain ⟨hr_121, he_122⟩ := hw_119
          have hr_121 : (-1 : Int) ≤ r_118.toInt ∧ r_118.toInt ≤ 480 := hr_121
          refine lv_istore (lv' := [(5, .int r_118), (4, .int z_98), (0, .ref (g 3)), (1, .int x), (2, .int y), (3, .int z)]) hx hb dX5_errorOf_70 hl (by decide) rfl (fun ls hl => ?_)
          refine lv_iload hx hb dX5_errorOf_72 (lv_at hl 0 rfl) ?_
          refine lv_iconst (v := 1) hx hb dX5_errorOf_74 (by decide) ?_
          refine lv_icmp_lt (tgt := 84) hx hb dX5_errorOf_75 (by decide) (fun c_123 => ?_) (fun c_123 => ?_)
          · skip
            have h_124 := s_lt (rfl : r_118.toInt = _) (show (1 : Int32).toInt = 1 from rfl) c_123
            refine lv_iconst (v := 3) hx hb dX5_errorOf_84 (by decide) ?_
            have hlv_125 : (3 : Int32).toInt = 3 := rfl
            exact sj_zret hx hb hr hlocks rfl hS () ⟨⟨by decide, by decide⟩, (Or.inr ⟨hcm2, Or.inr ⟨by omega, Or.inl ⟨by omega, by omega, by omega⟩⟩⟩)⟩ hH (sj_Knil hK) (Nat.le_of_ble_eq_true rfl) (Nat.le_of_ble_eq_true rfl) dX5_errorOf_85
          · skip
            have h_126 := s_nlt (rfl : r_118.toInt = _) (show (1 : Int32).toInt = 1 from rfl) c_123
            refine lv_iload hx hb dX5_errorOf_78 (lv_at hl 0 rfl) ?_
            refine lv_iconst (v := 4) hx hb dX5_errorOf_80 (by decide) ?_
            refine lv_icmp_le (tgt := 86) hx hb dX5_errorOf_81 (by decide) (fun c_127 => ?_) (fun c_127 => ?_)
            · skip
              have h_128 := s_le (rfl : r_118.toInt = _) (show (4 : Int32).toInt = 4 from rfl) c_127
              refine lv_aload_n hx hb dX5_errorOf_86 rfl (lv_at hl 2 rfl) ?_
              refine h_getr (ci := 5) (C := RX5) (F := TX5) (N := 19) hx hb hts in5 hown hK hH (by decide) (rfl : kd 3 = 5) (by decide) rfl 18 (by decide) wd3 (fun _ h9 => h9) (by decide) rfl (t := (r 3 18)) rfl (lt_nK (by omega)) dX5_errorOf_87 ?_
              have pb_129 := bxp hO (p := (r 3 18)) (by omega) (by omega)
              have po_130 := hPO (r 3 18) (by omega) (by omega)
              have bx_131 : (0 : Int) ≤ (i (r 3 18) 3).toInt ∧ (i (r 3 18) 3).toInt ≤ 40 := by have h9 := hO (r 3 18) 3; rw [bx_part (by omega) (by omega) 3] at h9; exact h9
              refine h_geti (ci := 4) (C := RX4) (F := TX4) (N := 9) hx hb hts in4 hown hK hH (lt_nK (by omega)) (kd_part (by omega) (by omega)) (by decide) rfl 3 (by decide) wd4 (fun _ h9 => h9) (by decide) rfl dX5_errorOf_90 ?_
              refine lv_if_le (tgt := 118) hx hb dX5_errorOf_93 (by decide) (fun c_132 => ?_) (fun c_132 => ?_)
              · skip
                have h_133 := s_le (rfl : (i (r 3 18) 3).toInt = _) (show (0 : Int32).toInt = 0 from rfl) c_132
                refine lv_aload_n hx hb dX5_errorOf_118 rfl (lv_at hl 2 rfl) ?_
                refine lv_iload_n hx hb dX5_errorOf_119 rfl (lv_at hl 3 rfl) ?_
                refine x_calli (va_runV (As := [.int x]) (rest := []) ⟨hx, hb, hml, hown, hts⟩ (k_hasRoom l D g ka ad i r L d x hO hR H.size (by first | omega | decide) (by first | omega | decide)) (cwV 1 hts gX5_errorOf_X5_hasRoom rfl rfl rfl (by decide +kernel) ⟨(Nat.le_of_ble_eq_true rfl), (Nat.le_of_ble_eq_true rfl)⟩) (x_preV (q := (RX5, TX5, 19)) hH hK (q_obj (by decide) (rfl : kd 3 = 5) (by decide)) rfl gxb (gxw hE hS (x_F hH hS hA))) rfl rfl hl.1 rfl (lv_room (Nat.le_of_ble_eq_true rfl)) dX5_errorOf_120 ⟨(Nat.le_of_ble_eq_true rfl), (Nat.le_of_ble_eq_true rfl)⟩) hH hS hA rfl rfl (fun r_134 _ H locs hw_135 hH hS => ?_)
                obtain ⟨hr_137, he_138⟩ := hw_135
                have hr_137 : (0 : Int) ≤ r_134.toInt ∧ r_134.toInt ≤ 1 := hr_137
                refine lv_if_eq (tgt := 130) hx hb dX5_errorOf_123 (by decide) (fun c_139 => ?_) (fun c_139 => ?_)
                · skip
                  have h_140 := s_eq (rfl : r_134.toInt = _) (show (0 : Int32).toInt = 0 from rfl) c_139
                  refine lv_iconst (v := 5) hx hb dX5_errorOf_130 (by decide) ?_
                  have hlv_141 : (5 : Int32).toInt = 5 := rfl
                  exact sj_zret hx hb hr hlocks rfl hS () ⟨⟨by decide, by decide⟩, (Or.inr ⟨hcm2, Or.inr ⟨by omega, Or.inr ⟨by omega, Or.inr ⟨(fun k9 => by first | exact absurd k9 (by omega) | exact Or.inl (by omega)), Or.inl ⟨(he_138.resolve_left (fun q9 => by have := q9.1; omega)).2, by omega⟩⟩⟩⟩⟩)⟩ hH (sj_Knil hK) (Nat.le_of_ble_eq_true rfl) (Nat.le_of_ble_eq_true rfl) dX5_errorOf_131
                · skip
                  have h_142 := s_ne (rfl : r_134.toInt = _) (show (0 : Int32).toInt = 0 from rfl) c_139
                  refine lv_iconst (v := 0) hx hb dX5_errorOf_126 (by decide) ?_
                  refine lv_goto (tgt := 131) hx hb dX5_errorOf_127 (by decide) ?_
                  have hlv_143 : (0 : Int32).toInt = 0 := rfl
                  exact sj_zret hx hb hr hlocks rfl hS () ⟨⟨by decide, by decide⟩, (Or.inr ⟨hcm2, Or.inr ⟨by omega, Or.inr ⟨by omega, Or.inr ⟨(fun k9 => by first | exact absurd k9 (by omega) | exact Or.inl (by omega)), Or.inr ⟨(he_138.resolve_right (fun q9 => by have := q9.1; omega)).2, by omega⟩⟩⟩⟩⟩)⟩ hH (sj_Knil hK) (Nat.le_of_ble_eq_true rfl) (Nat.le_of_ble_eq_true rfl) dX5_errorOf_131
              · skip
                have h_144 := s_nle (rfl : (i (r 3 18) 3).toInt = _) (show (0 : Int32).toInt = 0 from rfl) c_132
                refine lv_aload_n hx hb dX5_errorOf_96 rfl (lv_at hl 2 rfl) ?_
                refine h_getr (ci := 5) (C := RX5) (F := TX5) (N := 19) hx hb hts in5 hown hK hH (by decide) (rfl : kd 3 = 5) (by decide) rfl 13 (by decide) wd5 (fun _ h9 => h9) (by decide) rfl (t := 12) (hR 3 13 rfl) (by decide) dX5_errorOf_97 ?_
                refine lv_aload_n hx hb dX5_errorOf_100 rfl (lv_at hl 2 rfl) ?_
                refine h_getr (ci := 5) (C := RX5) (F := TX5) (N := 19) hx hb hts in5 hown hK hH (by decide) (rfl : kd 3 = 5) (by decide) rfl 18 (by decide) wd3 (fun _ h9 => h9) (by decide) rfl (t := (r 3 18)) rfl (lt_nK (by omega)) dX5_errorOf_101 ?_
                have pb_145 := bxp hO (p := (r 3 18)) (by omega) (by omega)
                have po_146 := hPO (r 3 18) (by omega) (by omega)
                have bx_147 : (0 : Int) ≤ (i (r 3 18) 2).toInt ∧ (i (r 3 18) 2).toInt ≤ 40 := by have h9 := hO (r 3 18) 2; rw [bx_part (by omega) (by omega) 2] at h9; exact h9
                refine h_geti (ci := 4) (C := RX4) (F := TX4) (N := 9) hx hb hts in4 hown hK hH (lt_nK (by omega)) (kd_part (by omega) (by omega)) (by decide) rfl 2 (by decide) wd6 (fun _ h9 => h9) (by decide) rfl dX5_errorOf_104 ?_
                obtain ⟨j_148, ej_148, hj_148⟩ : ∃ j : Nat, ((i (r 3 18) 2)).toNatClampNeg = j ∧ (j : Int) = (i (r 3 18) 2).toInt := ⟨_, rfl, by rw [s_cl (rfl : (i (r 3 18) 2).toInt = _)]; omega⟩
                have lj_148 : j_148 < 40 := by omega
                have hrj : (i (r 3 18) 2).toInt.toNat = j_148 := by omega
                refine h_qald hx hb hK hH (by decide) (rfl : kd 12 = 24) (by decide) rfl (s_vin (N := 40) (rfl : (i (r 3 18) 2).toInt = _) (rfl : ln 12 = 40) (by omega) (by omega)) (t := (96 + 3 * j_148)) (by rw [ej_148]; exact (hR 12 j_148 rfl)) (lt_nK (by omega)) dX5_errorOf_107 ?_
                have bx_149 : (0 : Int) ≤ (i (96 + 3 * j_148) 2).toInt ∧ (i (96 + 3 * j_148) 2).toInt ≤ 4 := by have h9 := hO (96 + 3 * j_148) 2; rw [bx_row lj_148 2] at h9; exact h9
                refine h_geti (ci := 6) (C := RX6) (F := TX6) (N := 4) hx hb hts in6 hown hK hH (lt_nK (by omega)) (kd_row lj_148) (by decide) rfl 2 (by decide) wd7 (fun _ h9 => h9) (by decide) rfl dX5_errorOf_108 ?_
                refine lv_iload hx hb dX5_errorOf_111 (lv_at hl 0 rfl) ?_
                refine lv_icmp_eq (tgt := 118) hx hb dX5_errorOf_113 (by decide) (fun c_150 => ?_) (fun c_150 => ?_)
                · skip
                  have h_151 := s_eq (rfl : (i (96 + 3 * j_148) 2).toInt = _) (rfl : r_118.toInt = _) c_150
                  refine lv_aload_n hx hb dX5_errorOf_118 rfl (lv_at hl 2 rfl) ?_
                  refine lv_iload_n hx hb dX5_errorOf_119 rfl (lv_at hl 3 rfl) ?_
                  refine x_calli (va_runV (As := [.int x]) (rest := []) ⟨hx, hb, hml, hown, hts⟩ (k_hasRoom l D g ka ad i r L d x hO hR H.size (by first | omega | decide) (by first | omega | decide)) (cwV 1 hts gX5_errorOf_X5_hasRoom rfl rfl rfl (by decide +kernel) ⟨(Nat.le_of_ble_eq_true rfl), (Nat.le_of_ble_eq_true rfl)⟩) (x_preV (q := (RX5, TX5, 19)) hH hK (q_obj (by decide) (rfl : kd 3 = 5) (by decide)) rfl gxb (gxw hE hS (x_F hH hS hA))) rfl rfl hl.1 rfl (lv_room (Nat.le_of_ble_eq_true rfl)) dX5_errorOf_120 ⟨(Nat.le_of_ble_eq_true rfl), (Nat.le_of_ble_eq_true rfl)⟩) hH hS hA rfl rfl (fun r_152 _ H locs hw_153 hH hS => ?_)
                  obtain ⟨hr_155, he_156⟩ := hw_153
                  have hr_155 : (0 : Int) ≤ r_152.toInt ∧ r_152.toInt ≤ 1 := hr_155
                  refine lv_if_eq (tgt := 130) hx hb dX5_errorOf_123 (by decide) (fun c_157 => ?_) (fun c_157 => ?_)
                  · skip
                    have h_158 := s_eq (rfl : r_152.toInt = _) (show (0 : Int32).toInt = 0 from rfl) c_157
                    refine lv_iconst (v := 5) hx hb dX5_errorOf_130 (by decide) ?_
                    have hlv_159 : (5 : Int32).toInt = 5 := rfl
                    exact sj_zret hx hb hr hlocks rfl hS () ⟨⟨by decide, by decide⟩, (Or.inr ⟨hcm2, Or.inr ⟨by omega, Or.inr ⟨by omega, Or.inr ⟨(fun k9 => Or.inr (by rw [hrj]; omega)), Or.inl ⟨(he_156.resolve_left (fun q9 => by have := q9.1; omega)).2, by omega⟩⟩⟩⟩⟩)⟩ hH (sj_Knil hK) (Nat.le_of_ble_eq_true rfl) (Nat.le_of_ble_eq_true rfl) dX5_errorOf_131
                  · skip
                    have h_160 := s_ne (rfl : r_152.toInt = _) (show (0 : Int32).toInt = 0 from rfl) c_157
                    refine lv_iconst (v := 0) hx hb dX5_errorOf_126 (by decide) ?_
                    refine lv_goto (tgt := 131) hx hb dX5_errorOf_127 (by decide) ?_
                    have hlv_161 : (0 : Int32).toInt = 0 := rfl
                    exact sj_zret hx hb hr hlocks rfl hS () ⟨⟨by decide, by decide⟩, (Or.inr ⟨hcm2, Or.inr ⟨by omega, Or.inr ⟨by omega, Or.inr ⟨(fun k9 => Or.inr (by rw [hrj]; omega)), Or.inr ⟨(he_156.resolve_right (fun q9 => by have := q9.1; omega)).2, by omega⟩⟩⟩⟩⟩)⟩ hH (sj_Knil hK) (Nat.le_of_ble_eq_true rfl) (Nat.le_of_ble_eq_true rfl) dX5_errorOf_131
                · skip
                  have h_162 := s_ne (rfl : (i (96 + 3 * j_148) 2).toInt = _) (rfl : r_118.toInt = _) c_150
                  refine lv_iconst (v := 4) hx hb dX5_errorOf_116 (by decide) ?_
                  have hlv_163 : (4 : Int32).toInt = 4 := rfl
                  exact sj_zret hx hb hr hlocks rfl hS () ⟨⟨by decide, by decide⟩, (Or.inr ⟨hcm2, Or.inr ⟨by omega, Or.inr ⟨by omega, Or.inl ⟨by omega, fun q9 => q9.elim (fun q8 => by omega) (fun q8 => by rw [hrj] at q8; omega), by omega⟩⟩⟩⟩)⟩ hH (sj_Knil hK) (Nat.le_of_ble_eq_true rfl) (Nat.le_of_ble_eq_true rfl) dX5_errorOf_117
            · skip
              have h_164 := s_nle (rfl : r_118.toInt = _) (show (4 : Int32).toInt = 4 from rfl) c_127
              refine lv_iconst (v := 3) hx hb dX5_errorOf_84 (by decide) ?_
              have hlv_165 : (3 : Int32).toInt = 3 := rfl
              exact sj_zret hx hb hr hlocks rfl hS () ⟨⟨by decide, by decide⟩, (Or.inr ⟨hcm2, Or.inr ⟨by omega, Or.inl ⟨by omega, by omega, by omega⟩⟩⟩)⟩ hH (sj_Knil hK) (Nat.le_of_ble_eq_true rfl) (Nat.le_of_ble_eq_true rfl) dX5_errorOf_85
      · skip
        have h_166 := s_eq (rfl : x.toInt = _) (show (1 : Int32).toInt = 1 from rfl) c_103
        refine lv_aload_n hx hb dX5_errorOf_48 rfl (lv_at hl 1 rfl) ?_
        refine lv_iload_n hx hb dX5_errorOf_49 rfl (lv_at hl 3 rfl) ?_
        refine lv_iload_n hx hb dX5_errorOf_50 rfl (lv_at hl 4 rfl) ?_
        refine x_calli (va_runV (As := [.int y, .int z]) (rest := []) ⟨hx, hb, hml, hown, hts⟩ (k_tagsOf l D g ka ad i r L d y z hO hR s.heap.size (by first | omega | decide) (by first | omega | decide) (by first | omega | decide)) (cwV 2 hts gX5_errorOf_X5_tagsOf rfl rfl rfl (by decide +kernel) ⟨(Nat.le_of_ble_eq_true rfl), (Nat.le_of_ble_eq_true rfl)⟩) (x_preV (q := (RX5, TX5, 19)) hH hK (q_obj (by decide) (rfl : kd 3 = 5) (by decide)) rfl gxb (gxw hE hS (x_F hH hS hA))) rfl rfl hl.1 rfl (lv_room (Nat.le_of_ble_eq_true rfl)) dX5_errorOf_51 ⟨(Nat.le_of_ble_eq_true rfl), (Nat.le_of_ble_eq_true rfl)⟩) hH hS hA rfl rfl (fun r_167 _ H locs hw_168 hH hS => ?_)
        obtain ⟨hr_170, hx2_171⟩ := hw_168
        have hr_170 : (0 : Int) ≤ r_167.toInt ∧ r_167.toInt ≤ 65535 := hr_170
        have htg := congrArg Int32.toInt hx2_171
        refine lv_if_ne (tgt := 59) hx hb dX5_errorOf_54 (by decide) (fun c_172 => ?_) (fun c_172 => ?_)
        · skip
          have h_173 := s_ne (rfl : r_167.toInt = _) (show (0 : Int32).toInt = 0 from rfl) c_172
          refine lv_iload_n hx hb dX5_errorOf_59 rfl (lv_at hl 2 rfl) ?_
          refine lv_iconst (v := 2) hx hb dX5_errorOf_60 (by decide) ?_
          refine lv_icmp_ne (tgt := 118) hx hb dX5_errorOf_61 (by decide) (fun _ => ?_) (fun h => absurd h (p_ne (rfl : x.toInt = _) (show (2 : Int32).toInt = 2 from rfl) (by omega)))
          refine lv_aload_n hx hb dX5_errorOf_118 rfl (lv_at hl 1 rfl) ?_
          refine lv_iload_n hx hb dX5_errorOf_119 rfl (lv_at hl 2 rfl) ?_
          refine x_calli (va_runV (As := [.int x]) (rest := []) ⟨hx, hb, hml, hown, hts⟩ (k_hasRoom l D g ka ad i r L d x hO hR H.size (by first | omega | decide) (by first | omega | decide)) (cwV 1 hts gX5_errorOf_X5_hasRoom rfl rfl rfl (by decide +kernel) ⟨(Nat.le_of_ble_eq_true rfl), (Nat.le_of_ble_eq_true rfl)⟩) (x_preV (q := (RX5, TX5, 19)) hH hK (q_obj (by decide) (rfl : kd 3 = 5) (by decide)) rfl gxb (gxw hE hS (x_F hH hS hA))) rfl rfl hl.1 rfl (lv_room (Nat.le_of_ble_eq_true rfl)) dX5_errorOf_120 ⟨(Nat.le_of_ble_eq_true rfl), (Nat.le_of_ble_eq_true rfl)⟩) hH hS hA rfl rfl (fun r_174 _ H locs hw_175 hH hS => ?_)
          obtain ⟨hr_177, he_178⟩ := hw_175
          have hr_177 : (0 : Int) ≤ r_174.toInt ∧ r_174.toInt ≤ 1 := hr_177
          refine lv_if_eq (tgt := 130) hx hb dX5_errorOf_123 (by decide) (fun c_179 => ?_) (fun c_179 => ?_)
          · skip
            have h_180 := s_eq (rfl : r_174.toInt = _) (show (0 : Int32).toInt = 0 from rfl) c_179
            refine lv_iconst (v := 5) hx hb dX5_errorOf_130 (by decide) ?_
            have hlv_181 : (5 : Int32).toInt = 5 := rfl
            exact sj_zret hx hb hr hlocks rfl hS () ⟨⟨by decide, by decide⟩, (Or.inr ⟨hcm2, Or.inr ⟨by omega, Or.inr ⟨by omega, Or.inr ⟨(fun k9 => by first | exact absurd k9 (by omega) | exact Or.inl (by omega)), Or.inl ⟨(he_178.resolve_left (fun q9 => by have := q9.1; omega)).2, by omega⟩⟩⟩⟩⟩)⟩ hH (sj_Knil hK) (Nat.le_of_ble_eq_true rfl) (Nat.le_of_ble_eq_true rfl) dX5_errorOf_131
          · skip
            have h_182 := s_ne (rfl : r_174.toInt = _) (show (0 : Int32).toInt = 0 from rfl) c_179
            refine lv_iconst (v := 0) hx hb dX5_errorOf_126 (by decide) ?_
            refine lv_goto (tgt := 131) hx hb dX5_errorOf_127 (by decide) ?_
            have hlv_183 : (0 : Int32).toInt = 0 := rfl
            exact sj_zret hx hb hr hlocks rfl hS () ⟨⟨by decide, by decide⟩, (Or.inr ⟨hcm2, Or.inr ⟨by omega, Or.inr ⟨by omega, Or.inr ⟨(fun k9 => by first | exact absurd k9 (by omega) | exact Or.inl (by omega)), Or.inr ⟨(he_178.resolve_right (fun q9 => by have := q9.1; omega)).2, by omega⟩⟩⟩⟩⟩)⟩ hH (sj_Knil hK) (Nat.le_of_ble_eq_true rfl) (Nat.le_of_ble_eq_true rfl) dX5_errorOf_131
        · skip
          have h_184 := s_eq (rfl : r_167.toInt = _) (show (0 : Int32).toInt = 0 from rfl) c_172
          refine lv_iconst (v := 2) hx hb dX5_errorOf_57 (by decide) ?_
          have hlv_185 : (2 : Int32).toInt = 2 := rfl
          exact sj_zret hx hb hr hlocks rfl hS () ⟨⟨by decide, by decide⟩, (Or.inr ⟨hcm2, Or.inl ⟨by omega, by omega, by omega⟩⟩)⟩ hH (sj_Knil hK) (Nat.le_of_ble_eq_true rfl) (Nat.le_of_ble_eq_true rfl) dX5_errorOf_58
    · skip
      have h_186 := s_eq (rfl : z_100.toInt = _) (show (0 : Int32).toInt = 0 from rfl) c_101
      have hcm2 := (hcm.resolve_right (fun q => by have := q.1; omega)).2
      refine lv_iconst (v := 1) hx hb dX5_errorOf_41 (by decide) ?_
      have hlv_187 : (1 : Int32).toInt = 1 := rfl
      exact sj_zret hx hb hr hlocks rfl hS () ⟨⟨by decide, by decide⟩, (Or.inl ⟨hcm2, by omega⟩)⟩ hH (sj_Knil hK) (Nat.le_of_ble_eq_true rfl) (Nat.le_of_ble_eq_true rfl) dX5_errorOf_42
