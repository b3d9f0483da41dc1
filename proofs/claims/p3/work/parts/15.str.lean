theorem x_preS2 {D : va_G} {A A0 : Nat → Prop} {X : va_W} {T : List (ClassId × FieldType)} {s : State} {H : Heap} {locs : List Loc} {ad av : Nat → Nat} {n : Nat} {As : List Value} {Ex : State → Prop} (hE : vk_S 5 jLen jByt ad av A s s.heap) (hn : n < 5) (hH : sj_H D A0 X H) (hK : va_K D vwCl T s) (hS : va_S A s.heap H locs) (hbl : sj_bl Ex) (hx : ∀ U : State, U.heap = H → s.WarmedH U.vm → Ex U) : PreV s H "java/lang/String" (ad n) (va_Pc (.ref (ad n) :: As) (sj_B D X T H.size Ex)) As :=
  ⟨sj_blind hbl, vk_recv hE hn hS, fun U hU hW => ⟨rfl, by rw [hU], by rw [hU]; exact hH.1, va_K.moved hW.alike hK, hH.2.weaken (fun _ _ _ _ => trivial), hx U hU hW⟩⟩
theorem s_i2b {x z : Int32} (ez : z = x.toInt8.toInt32) (h0 : 0 ≤ x.toInt) (h1 : x.toInt ≤ 255) : (x.toInt ≤ 127 ∧ z.toInt = x.toInt) ∨ (128 ≤ x.toInt ∧ z.toInt < 0) := by
  have h : z.toInt = x.toInt.bmod 256 := by rw [ez, Int8.toInt_toInt32, Int32.toInt_toInt8]
  rw [Int.bmod_def] at h
  have e : x.toInt % (256 : Nat) = x.toInt := Int.emod_eq_of_lt h0 (by omega)
  rw [e] at h
  split at h <;> omega
theorem dJ1_canEncode_9a6ad_0 : decode cJ1_canEncode_9a6ad 0 = .ok (.iload_n 0, 1) := by decide +kernel
theorem dJ1_canEncode_9a6ad_1 : decode cJ1_canEncode_9a6ad 1 = .ok (.ifCond .lt 14, 3) := by decide +kernel
theorem dJ1_canEncode_9a6ad_15 : decode cJ1_canEncode_9a6ad 15 = .ok (.iconst 0, 1) := by decide +kernel
theorem dJ1_canEncode_9a6ad_16 : decode cJ1_canEncode_9a6ad 16 = .ok (.ireturn, 1) := by decide +kernel
theorem dJ1_canEncode_9a6ad_4 : decode cJ1_canEncode_9a6ad 4 = .ok (.iload_n 0, 1) := by decide +kernel
theorem dJ1_canEncode_9a6ad_5 : decode cJ1_canEncode_9a6ad 5 = .ok (.sipush 255, 3) := by decide +kernel
theorem dJ1_canEncode_9a6ad_8 : decode cJ1_canEncode_9a6ad 8 = .ok (.if_icmp .gt 7, 3) := by decide +kernel
theorem dJ1_canEncode_9a6ad_11 : decode cJ1_canEncode_9a6ad 11 = .ok (.iconst 1, 1) := by decide +kernel
theorem dJ1_canEncode_9a6ad_12 : decode cJ1_canEncode_9a6ad 12 = .ok (.goto 4, 3) := by decide +kernel
theorem dJ0_isLatin1_aae02_0 : decode cJ0_isLatin1_aae02 0 = .ok (.getstatic 38, 3) := by decide +kernel
theorem dJ0_isLatin1_aae02_3 : decode cJ0_isLatin1_aae02 3 = .ok (.ifCond .eq 14, 3) := by decide +kernel
theorem dJ0_isLatin1_aae02_6 : decode cJ0_isLatin1_aae02 6 = .ok (.aload_n 0, 1) := by decide +kernel
theorem dJ0_isLatin1_aae02_7 : decode cJ0_isLatin1_aae02 7 = .ok (.getfield 15, 3) := by decide +kernel
theorem dJ0_isLatin1_aae02_10 : decode cJ0_isLatin1_aae02 10 = .ok (.ifCond .ne 7, 3) := by decide +kernel
theorem dJ0_isLatin1_aae02_13 : decode cJ0_isLatin1_aae02 13 = .ok (.iconst 1, 1) := by decide +kernel
theorem dJ0_isLatin1_aae02_14 : decode cJ0_isLatin1_aae02 14 = .ok (.goto 4, 3) := by decide +kernel
theorem dJ0_isLatin1_aae02_18 : decode cJ0_isLatin1_aae02 18 = .ok (.ireturn, 1) := by decide +kernel
theorem dJ0_coder_7d493_0 : decode cJ0_coder_7d493 0 = .ok (.getstatic 38, 3) := by decide +kernel
theorem dJ0_coder_7d493_3 : decode cJ0_coder_7d493 3 = .ok (.ifCond .eq 10, 3) := by decide +kernel
theorem dJ0_coder_7d493_6 : decode cJ0_coder_7d493 6 = .ok (.aload_n 0, 1) := by decide +kernel
theorem dJ0_coder_7d493_7 : decode cJ0_coder_7d493 7 = .ok (.getfield 15, 3) := by decide +kernel
theorem dJ0_coder_7d493_10 : decode cJ0_coder_7d493 10 = .ok (.goto 4, 3) := by decide +kernel
theorem dJ0_coder_7d493_14 : decode cJ0_coder_7d493 14 = .ok (.ireturn, 1) := by decide +kernel
theorem dJ1_indexOfChar_4cfef_0 : decode cJ1_indexOfChar_4cfef 0 = .ok (.iload_n 1, 1) := by decide +kernel
theorem dJ1_indexOfChar_4cfef_1 : decode cJ1_indexOfChar_4cfef 1 = .ok (.i2b, 1) := by decide +kernel
theorem dJ1_indexOfChar_4cfef_2 : decode cJ1_indexOfChar_4cfef 2 = .ok (.istore 4, 2) := by decide +kernel
theorem dJ1_indexOfChar_4cfef_4 : decode cJ1_indexOfChar_4cfef 4 = .ok (.iload_n 2, 1) := by decide +kernel
theorem dJ1_indexOfChar_4cfef_5 : decode cJ1_indexOfChar_4cfef 5 = .ok (.istore 5, 2) := by decide +kernel
theorem dJ1_indexOfChar_4cfef_7 : decode cJ1_indexOfChar_4cfef 7 = .ok (.iload 5, 2) := by decide +kernel
theorem dJ1_indexOfChar_4cfef_9 : decode cJ1_indexOfChar_4cfef 9 = .ok (.iload_n 3, 1) := by decide +kernel
theorem dJ1_indexOfChar_4cfef_10 : decode cJ1_indexOfChar_4cfef 10 = .ok (.if_icmp .ge 21, 3) := by decide +kernel
theorem dJ1_indexOfChar_4cfef_13 : decode cJ1_indexOfChar_4cfef 13 = .ok (.aload_n 0, 1) := by decide +kernel
theorem dJ1_indexOfChar_4cfef_14 : decode cJ1_indexOfChar_4cfef 14 = .ok (.iload 5, 2) := by decide +kernel
theorem dJ1_indexOfChar_4cfef_16 : decode cJ1_indexOfChar_4cfef 16 = .ok (.baload, 1) := by decide +kernel
theorem dJ1_indexOfChar_4cfef_17 : decode cJ1_indexOfChar_4cfef 17 = .ok (.iload 4, 2) := by decide +kernel
theorem dJ1_indexOfChar_4cfef_19 : decode cJ1_indexOfChar_4cfef 19 = .ok (.if_icmp .ne 6, 3) := by decide +kernel
theorem dJ1_indexOfChar_4cfef_25 : decode cJ1_indexOfChar_4cfef 25 = .ok (.iinc 5 1, 3) := by decide +kernel
theorem dJ1_indexOfChar_4cfef_28 : decode cJ1_indexOfChar_4cfef 28 = .ok (.goto (-21), 3) := by decide +kernel
theorem dJ1_indexOfChar_4cfef_31 : decode cJ1_indexOfChar_4cfef 31 = .ok (.iconst (-1), 1) := by decide +kernel
theorem dJ1_indexOfChar_4cfef_32 : decode cJ1_indexOfChar_4cfef 32 = .ok (.ireturn, 1) := by decide +kernel
theorem dJ1_indexOfChar_4cfef_22 : decode cJ1_indexOfChar_4cfef 22 = .ok (.iload 5, 2) := by decide +kernel
theorem dJ1_indexOfChar_4cfef_24 : decode cJ1_indexOfChar_4cfef 24 = .ok (.ireturn, 1) := by decide +kernel
theorem dJ1_indexOf_4cfef_0 : decode cJ1_indexOf_4cfef 0 = .ok (.iload_n 1, 1) := by decide +kernel
theorem dJ1_indexOf_4cfef_1 : decode cJ1_indexOf_4cfef 1 = .ok (.invokestatic 88, 3) := by decide +kernel
theorem dJ1_indexOf_4cfef_4 : decode cJ1_indexOf_4cfef 4 = .ok (.ifCond .ne 5, 3) := by decide +kernel
theorem dJ1_indexOf_4cfef_9 : decode cJ1_indexOf_4cfef 9 = .ok (.iload_n 2, 1) := by decide +kernel
theorem dJ1_indexOf_4cfef_10 : decode cJ1_indexOf_4cfef 10 = .ok (.iconst 0, 1) := by decide +kernel
theorem dJ1_indexOf_4cfef_11 : decode cJ1_indexOf_4cfef 11 = .ok (.invokestatic 92, 3) := by decide +kernel
theorem dJ1_indexOf_4cfef_14 : decode cJ1_indexOf_4cfef 14 = .ok (.istore_n 2, 1) := by decide +kernel
theorem dJ1_indexOf_4cfef_15 : decode cJ1_indexOf_4cfef 15 = .ok (.iload_n 3, 1) := by decide +kernel
theorem dJ1_indexOf_4cfef_16 : decode cJ1_indexOf_4cfef 16 = .ok (.aload_n 0, 1) := by decide +kernel
theorem dJ1_indexOf_4cfef_17 : decode cJ1_indexOf_4cfef 17 = .ok (.arraylength, 1) := by decide +kernel
theorem dJ1_indexOf_4cfef_18 : decode cJ1_indexOf_4cfef 18 = .ok (.invokestatic 38, 3) := by decide +kernel
theorem dJ1_indexOf_4cfef_21 : decode cJ1_indexOf_4cfef 21 = .ok (.istore_n 3, 1) := by decide +kernel
theorem dJ1_indexOf_4cfef_22 : decode cJ1_indexOf_4cfef 22 = .ok (.iload_n 2, 1) := by decide +kernel
theorem dJ1_indexOf_4cfef_23 : decode cJ1_indexOf_4cfef 23 = .ok (.iload_n 3, 1) := by decide +kernel
theorem dJ1_indexOf_4cfef_24 : decode cJ1_indexOf_4cfef 24 = .ok (.if_icmp .lt 5, 3) := by decide +kernel
theorem dJ1_indexOf_4cfef_29 : decode cJ1_indexOf_4cfef 29 = .ok (.aload_n 0, 1) := by decide +kernel
theorem dJ1_indexOf_4cfef_30 : decode cJ1_indexOf_4cfef 30 = .ok (.iload_n 1, 1) := by decide +kernel
theorem dJ1_indexOf_4cfef_31 : decode cJ1_indexOf_4cfef 31 = .ok (.iload_n 2, 1) := by decide +kernel
theorem dJ1_indexOf_4cfef_32 : decode cJ1_indexOf_4cfef 32 = .ok (.iload_n 3, 1) := by decide +kernel
theorem dJ1_indexOf_4cfef_33 : decode cJ1_indexOf_4cfef 33 = .ok (.invokestatic 95, 3) := by decide +kernel
theorem dJ1_indexOf_4cfef_36 : decode cJ1_indexOf_4cfef 36 = .ok (.ireturn, 1) := by decide +kernel
theorem dJ1_indexOf_4cfef_7 : decode cJ1_indexOf_4cfef 7 = .ok (.iconst (-1), 1) := by decide +kernel
theorem dJ1_indexOf_4cfef_8 : decode cJ1_indexOf_4cfef 8 = .ok (.ireturn, 1) := by decide +kernel
theorem dJ0_length_8abf5_0 : decode cJ0_length_8abf5 0 = .ok (.aload_n 0, 1) := by decide +kernel
theorem dJ0_length_8abf5_1 : decode cJ0_length_8abf5 1 = .ok (.getfield 9, 3) := by decide +kernel
theorem dJ0_length_8abf5_4 : decode cJ0_length_8abf5 4 = .ok (.arraylength, 1) := by decide +kernel
theorem dJ0_length_8abf5_5 : decode cJ0_length_8abf5 5 = .ok (.aload_n 0, 1) := by decide +kernel
theorem dJ0_length_8abf5_6 : decode cJ0_length_8abf5 6 = .ok (.invokevirtual 335, 3) := by decide +kernel
theorem dJ0_length_8abf5_9 : decode cJ0_length_8abf5 9 = .ok (.ishr, 1) := by decide +kernel
theorem dJ0_length_8abf5_10 : decode cJ0_length_8abf5 10 = .ok (.ireturn, 1) := by decide +kernel
theorem dJ0_indexOf_7cf53_0 : decode cJ0_indexOf_7cf53 0 = .ok (.aload_n 0, 1) := by decide +kernel
theorem dJ0_indexOf_7cf53_1 : decode cJ0_indexOf_7cf53 1 = .ok (.invokevirtual 492, 3) := by decide +kernel
theorem dJ0_indexOf_7cf53_4 : decode cJ0_indexOf_7cf53 4 = .ok (.ifCond .eq 19, 3) := by decide +kernel
theorem dJ0_indexOf_7cf53_7 : decode cJ0_indexOf_7cf53 7 = .ok (.aload_n 0, 1) := by decide +kernel
theorem dJ0_indexOf_7cf53_8 : decode cJ0_indexOf_7cf53 8 = .ok (.getfield 9, 3) := by decide +kernel
theorem dJ0_indexOf_7cf53_11 : decode cJ0_indexOf_7cf53 11 = .ok (.iload_n 1, 1) := by decide +kernel
theorem dJ0_indexOf_7cf53_12 : decode cJ0_indexOf_7cf53 12 = .ok (.iload_n 2, 1) := by decide +kernel
theorem dJ0_indexOf_7cf53_13 : decode cJ0_indexOf_7cf53 13 = .ok (.aload_n 0, 1) := by decide +kernel
theorem dJ0_indexOf_7cf53_14 : decode cJ0_indexOf_7cf53 14 = .ok (.invokevirtual 505, 3) := by decide +kernel
theorem dJ0_indexOf_7cf53_17 : decode cJ0_indexOf_7cf53 17 = .ok (.invokestatic 637, 3) := by decide +kernel
theorem dJ0_indexOf_7cf53_20 : decode cJ0_indexOf_7cf53 20 = .ok (.goto 16, 3) := by decide +kernel
theorem dJ0_indexOf_7cf53_36 : decode cJ0_indexOf_7cf53 36 = .ok (.ireturn, 1) := by decide +kernel
theorem dJ0_indexOf_0f7a4_0 : decode cJ0_indexOf_0f7a4 0 = .ok (.aload_n 0, 1) := by decide +kernel
theorem dJ0_indexOf_0f7a4_1 : decode cJ0_indexOf_0f7a4 1 = .ok (.iload_n 1, 1) := by decide +kernel
theorem dJ0_indexOf_0f7a4_2 : decode cJ0_indexOf_0f7a4 2 = .ok (.iconst 0, 1) := by decide +kernel
theorem dJ0_indexOf_0f7a4_3 : decode cJ0_indexOf_0f7a4 3 = .ok (.invokevirtual 633, 3) := by decide +kernel
theorem dJ0_indexOf_0f7a4_6 : decode cJ0_indexOf_0f7a4 6 = .ok (.ireturn, 1) := by decide +kernel
theorem gw_J1_canEncode_9a6ad : wsJ1_canEncode_9a6ad.all goodWord = true := by decide +kernel
theorem gJ1_indexOf_4cfef_J1_canEncode_9a6ad : GoodIn wsJ1_indexOf_4cfef (va_wsS RJ1 88 yJ1_canEncode_9a6ad wsJ1_canEncode_9a6ad) := goodIn_app (goodIn_sub (List.forall_mem_cons.mpr ⟨(List.mem_cons_of_mem _ lm7), List.forall_mem_cons.mpr ⟨(List.mem_cons_of_mem _ lm8), List.forall_mem_cons.mpr ⟨(List.mem_cons_of_mem _ lm9), (fun _ h => absurd h List.not_mem_nil)⟩⟩⟩) (by decide +kernel)) (goodIn_sub (by unfold wsJ1_canEncode_9a6ad; exact List.forall_mem_cons.mpr ⟨(List.mem_cons_of_mem _ lm10), (fun _ h => absurd h List.not_mem_nil)⟩) gw_J1_canEncode_9a6ad)
theorem gw_J1_indexOfChar_4cfef : wsJ1_indexOfChar_4cfef.all goodWord = true := by decide +kernel
theorem gJ1_indexOf_4cfef_J1_indexOfChar_4cfef : GoodIn wsJ1_indexOf_4cfef (va_wsS RJ1 95 yJ1_indexOfChar_4cfef wsJ1_indexOfChar_4cfef) := goodIn_app (goodIn_sub (List.forall_mem_cons.mpr ⟨(List.mem_cons_of_mem _ lm11), List.forall_mem_cons.mpr ⟨(List.mem_cons_of_mem _ lm12), List.forall_mem_cons.mpr ⟨(List.mem_cons_of_mem _ lm9), (fun _ h => absurd h List.not_mem_nil)⟩⟩⟩) (by decide +kernel)) (goodIn_sub (by unfold wsJ1_indexOfChar_4cfef; exact List.forall_mem_cons.mpr ⟨(List.mem_cons_of_mem _ lm13), (fun _ h => absurd h List.not_mem_nil)⟩) gw_J1_indexOfChar_4cfef)
theorem gw_J0_coder_7d493 : wsJ0_coder_7d493.all goodWord = true := by decide +kernel
theorem gJ0_length_8abf5_J0_coder_7d493 : GoodIn wsJ0_length_8abf5 (wsV RJ0 335 RJ0 yJ0_coder_7d493 wsJ0_coder_7d493) := goodIn_app (goodIn_sub (List.forall_mem_cons.mpr ⟨(List.mem_cons_of_mem _ lm1), List.forall_mem_cons.mpr ⟨(List.mem_cons_of_mem _ lm2), List.forall_mem_cons.mpr ⟨(List.mem_cons_of_mem _ lm3), List.forall_mem_cons.mpr ⟨(List.mem_cons_of_mem _ lm4), (fun _ h => absurd h List.not_mem_nil)⟩⟩⟩⟩) (by decide +kernel)) (goodIn_sub (by unfold wsJ0_coder_7d493; exact List.forall_mem_cons.mpr ⟨(List.mem_cons_of_mem _ lm5), List.forall_mem_cons.mpr ⟨(List.mem_cons_of_mem _ lm6), List.forall_mem_cons.mpr ⟨(List.mem_cons_of_mem _ lm7), (fun _ h => absurd h List.not_mem_nil)⟩⟩⟩) gw_J0_coder_7d493)
theorem gw_J0_isLatin1_aae02 : wsJ0_isLatin1_aae02.all goodWord = true := by decide +kernel
theorem gJ0_indexOf_7cf53_J0_isLatin1_aae02 : GoodIn wsJ0_indexOf_7cf53 (wsV RJ0 492 RJ0 yJ0_isLatin1_aae02 wsJ0_isLatin1_aae02) := goodIn_app (goodIn_sub (List.forall_mem_cons.mpr ⟨(List.mem_cons_of_mem _ (List.mem_append_left _ lm1)), List.forall_mem_cons.mpr ⟨(List.mem_cons_of_mem _ (List.mem_append_left _ lm2)), List.forall_mem_cons.mpr ⟨(List.mem_cons_of_mem _ (List.mem_append_left _ lm3)), List.forall_mem_cons.mpr ⟨(List.mem_cons_of_mem _ (List.mem_append_left _ lm4)), (fun _ h => absurd h List.not_mem_nil)⟩⟩⟩⟩) (by decide +kernel)) (goodIn_sub (by unfold wsJ0_isLatin1_aae02; exact List.forall_mem_cons.mpr ⟨(List.mem_cons_of_mem _ (List.mem_append_left _ lm5)), List.forall_mem_cons.mpr ⟨(List.mem_cons_of_mem _ (List.mem_append_left _ lm6)), List.forall_mem_cons.mpr ⟨(List.mem_cons_of_mem _ (List.mem_append_left _ lm7)), (fun _ h => absurd h List.not_mem_nil)⟩⟩⟩) gw_J0_isLatin1_aae02)
theorem gw_J0_length_8abf5 : wsJ0_length_8abf5.all goodWord = true := by decide +kernel
theorem gJ0_indexOf_7cf53_J0_length_8abf5 : GoodIn wsJ0_indexOf_7cf53 (wsV RJ0 505 RJ0 yJ0_length_8abf5 wsJ0_length_8abf5) := goodIn_app (goodIn_sub (List.forall_mem_cons.mpr ⟨(List.mem_cons_of_mem _ (List.mem_append_left _ lm8)), List.forall_mem_cons.mpr ⟨(List.mem_cons_of_mem _ (List.mem_append_left _ lm9)), List.forall_mem_cons.mpr ⟨(List.mem_cons_of_mem _ (List.mem_append_left _ lm10)), List.forall_mem_cons.mpr ⟨(List.mem_cons_of_mem _ (List.mem_append_left _ lm4)), (fun _ h => absurd h List.not_mem_nil)⟩⟩⟩⟩) (by decide +kernel)) (goodIn_sub (by unfold wsJ0_length_8abf5; exact List.forall_mem_cons.mpr ⟨(List.mem_cons_of_mem _ (List.mem_append_left _ lm11)), List.forall_mem_cons.mpr ⟨(List.mem_cons_of_mem _ (List.mem_append_left _ lm0)), List.forall_mem_cons.mpr ⟨(List.mem_cons_of_mem _ (List.mem_append_left _ lm12)), List.forall_mem_cons.mpr ⟨(List.mem_cons_of_mem _ (List.mem_append_left _ lm13)), List.forall_mem_cons.mpr ⟨(List.mem_cons_of_mem _ (List.mem_append_left _ lm14)), List.forall_mem_cons.mpr ⟨(List.mem_cons_of_mem _ (List.mem_append_left _ lm4)), List.forall_mem_cons.mpr ⟨(List.mem_cons_of_mem _ (List.mem_append_left _ lm15)), List.forall_mem_cons.mpr ⟨(List.mem_cons_of_mem _ (List.mem_append_left _ lm6)), List.forall_mem_cons.mpr ⟨(List.mem_cons_of_mem _ (List.mem_append_left _ lm7)), (fun _ h => absurd h List.not_mem_nil)⟩⟩⟩⟩⟩⟩⟩⟩⟩) gw_J0_length_8abf5)
theorem gw_J1_indexOf_4cfef : wsJ1_indexOf_4cfef.all goodWord = true := by decide +kernel
theorem gJ0_indexOf_7cf53_J1_indexOf_4cfef : GoodIn wsJ0_indexOf_7cf53 (va_wsS RJ0 637 yJ1_indexOf_4cfef wsJ1_indexOf_4cfef) := goodIn_app (goodIn_sub (List.forall_mem_cons.mpr ⟨(List.mem_cons_of_mem _ (List.mem_append_left _ lm16)), List.forall_mem_cons.mpr ⟨(List.mem_cons_of_mem _ (List.mem_append_left _ lm17)), List.forall_mem_cons.mpr ⟨(List.mem_cons_of_mem _ (List.mem_append_left _ lm18)), (fun _ h => absurd h List.not_mem_nil)⟩⟩⟩) (by decide +kernel)) (goodIn_sub (by unfold wsJ1_indexOf_4cfef; exact List.forall_mem_cons.mpr ⟨(List.mem_cons_of_mem _ (List.mem_append_left _ lm19)), List.forall_mem_cons.mpr ⟨(List.mem_cons_of_mem _ (List.mem_append_left _ lm20)), List.forall_mem_cons.mpr ⟨(List.mem_cons_of_mem _ (List.mem_append_left _ lm21)), List.forall_mem_cons.mpr ⟨(List.mem_cons_of_mem _ (List.mem_append_left _ lm22)), List.forall_mem_cons.mpr ⟨(List.mem_cons_of_mem _ (List.mem_append_left _ lm23)), List.forall_mem_cons.mpr ⟨(List.mem_cons_of_mem _ (List.mem_append_right _ (List.mem_append_left _ lm0))), List.forall_mem_cons.mpr ⟨(List.mem_cons_of_mem _ (List.mem_append_right _ (List.mem_append_left _ lm1))), List.forall_mem_cons.mpr ⟨(List.mem_cons_of_mem _ (List.mem_append_right _ (List.mem_append_left _ lm2))), List.forall_mem_cons.mpr ⟨(List.mem_cons_of_mem _ (List.mem_append_right _ (List.mem_append_left _ lm3))), List.forall_mem_cons.mpr ⟨(List.mem_cons_of_mem _ (List.mem_append_right _ (List.mem_append_left _ lm4))), List.forall_mem_cons.mpr ⟨(List.mem_cons_of_mem _ (List.mem_append_left _ lm18)), List.forall_mem_cons.mpr ⟨(List.mem_cons_of_mem _ (List.mem_append_right _ (List.mem_append_left _ lm5))), List.forall_mem_cons.mpr ⟨(List.mem_cons_of_mem _ (List.mem_append_right _ (List.mem_append_left _ lm6))), List.forall_mem_cons.mpr ⟨(List.mem_cons_of_mem _ (List.mem_append_right _ (List.mem_append_left _ lm7))), List.forall_mem_cons.mpr ⟨(List.mem_cons_of_mem _ (List.mem_append_right _ (List.mem_append_left _ lm8))), (fun _ h => absurd h List.not_mem_nil)⟩⟩⟩⟩⟩⟩⟩⟩⟩⟩⟩⟩⟩⟩⟩) gw_J1_indexOf_4cfef)
theorem gw_J0_indexOf_7cf53 : wsJ0_indexOf_7cf53.all goodWord = true := by decide +kernel
theorem gJ0_indexOf_0f7a4_J0_indexOf_7cf53 : GoodIn wsJ0_indexOf_0f7a4 (wsV RJ0 633 RJ0 yJ0_indexOf_7cf53 wsJ0_indexOf_7cf53) := goodIn_app (goodIn_sub (List.forall_mem_cons.mpr ⟨(List.mem_cons_of_mem _ (List.mem_append_left _ lm0)), List.forall_mem_cons.mpr ⟨(List.mem_cons_of_mem _ (List.mem_append_left _ lm1)), List.forall_mem_cons.mpr ⟨(List.mem_cons_of_mem _ (List.mem_append_left _ lm2)), List.forall_mem_cons.mpr ⟨(List.mem_cons_of_mem _ (List.mem_append_left _ lm3)), (fun _ h => absurd h List.not_mem_nil)⟩⟩⟩⟩) (by decide +kernel)) (goodIn_sub (by unfold wsJ0_indexOf_7cf53; exact List.forall_mem_cons.mpr ⟨(List.mem_cons_of_mem _ (List.mem_append_left _ lm4)), List.forall_mem_append.mpr ⟨List.forall_mem_cons.mpr ⟨(List.mem_cons_of_mem _ (List.mem_append_left _ lm5)), List.forall_mem_cons.mpr ⟨(List.mem_cons_of_mem _ (List.mem_append_left _ lm6)), List.forall_mem_cons.mpr ⟨(List.mem_cons_of_mem _ (List.mem_append_left _ lm7)), List.forall_mem_cons.mpr ⟨(List.mem_cons_of_mem _ (List.mem_append_left _ lm8)), List.forall_mem_cons.mpr ⟨(List.mem_cons_of_mem _ (List.mem_append_left _ lm3)), List.forall_mem_cons.mpr ⟨(List.mem_cons_of_mem _ (List.mem_append_left _ lm9)), List.forall_mem_cons.mpr ⟨(List.mem_cons_of_mem _ (List.mem_append_left _ lm10)), List.forall_mem_cons.mpr ⟨(List.mem_cons_of_mem _ (List.mem_append_left _ lm11)), List.forall_mem_cons.mpr ⟨(List.mem_cons_of_mem _ (List.mem_append_left _ lm12)), List.forall_mem_cons.mpr ⟨(List.mem_cons_of_mem _ (List.mem_append_left _ lm13)), List.forall_mem_cons.mpr ⟨(List.mem_cons_of_mem _ (List.mem_append_left _ lm14)), List.forall_mem_cons.mpr ⟨(List.mem_cons_of_mem _ (List.mem_append_left _ lm15)), List.forall_mem_cons.mpr ⟨(List.mem_cons_of_mem _ (List.mem_append_left _ lm16)), List.forall_mem_cons.mpr ⟨(List.mem_cons_of_mem _ (List.mem_append_left _ lm17)), List.forall_mem_cons.mpr ⟨(List.mem_cons_of_mem _ (List.mem_append_left _ lm18)), List.forall_mem_cons.mpr ⟨(List.mem_cons_of_mem _ (List.mem_append_left _ lm19)), List.forall_mem_cons.mpr ⟨(List.mem_cons_of_mem _ (List.mem_append_left _ lm20)), List.forall_mem_cons.mpr ⟨(List.mem_cons_of_mem _ (List.mem_append_left _ lm21)), List.forall_mem_cons.mpr ⟨(List.mem_cons_of_mem _ (List.mem_append_left _ lm22)), List.forall_mem_cons.mpr ⟨(List.mem_cons_of_mem _ (List.mem_append_left _ lm23)), List.forall_mem_cons.mpr ⟨(List.mem_cons_of_mem _ (List.mem_append_right _ (List.mem_append_left _ lm0))), List.forall_mem_cons.mpr ⟨(List.mem_cons_of_mem _ (List.mem_append_right _ (List.mem_append_left _ lm1))), List.forall_mem_cons.mpr ⟨(List.mem_cons_of_mem _ (List.mem_append_right _ (List.mem_append_left _ lm2))), List.forall_mem_cons.mpr ⟨(List.mem_cons_of_mem _ (List.mem_append_right _ (List.mem_append_left _ lm3))), (fun _ h => absurd h List.not_mem_nil)⟩⟩⟩⟩⟩⟩⟩⟩⟩⟩⟩⟩⟩⟩⟩⟩⟩⟩⟩⟩⟩⟩⟩⟩, List.forall_mem_append.mpr ⟨List.forall_mem_cons.mpr ⟨(List.mem_cons_of_mem _ (List.mem_append_right _ (List.mem_append_left _ lm4))), List.forall_mem_cons.mpr ⟨(List.mem_cons_of_mem _ (List.mem_append_right _ (List.mem_append_left _ lm5))), List.forall_mem_cons.mpr ⟨(List.mem_cons_of_mem _ (List.mem_append_right _ (List.mem_append_left _ lm6))), List.forall_mem_cons.mpr ⟨(List.mem_cons_of_mem _ (List.mem_append_right _ (List.mem_append_left _ lm7))), List.forall_mem_cons.mpr ⟨(List.mem_cons_of_mem _ (List.mem_append_right _ (List.mem_append_left _ lm8))), List.forall_mem_cons.mpr ⟨(List.mem_cons_of_mem _ (List.mem_append_right _ (List.mem_append_left _ lm9))), List.forall_mem_cons.mpr ⟨(List.mem_cons_of_mem _ (List.mem_append_right _ (List.mem_append_left _ lm10))), List.forall_mem_cons.mpr ⟨(List.mem_cons_of_mem _ (List.mem_append_right _ (List.mem_append_left _ lm11))), List.forall_mem_cons.mpr ⟨(List.mem_cons_of_mem _ (List.mem_append_right _ (List.mem_append_left _ lm12))), List.forall_mem_cons.mpr ⟨(List.mem_cons_of_mem _ (List.mem_append_right _ (List.mem_append_left _ lm13))), List.forall_mem_cons.mpr ⟨(List.mem_cons_of_mem _ (List.mem_append_right _ (List.mem_append_left _ lm14))), List.forall_mem_cons.mpr ⟨(List.mem_cons_of_mem _ (List.mem_append_right _ (List.mem_append_left _ lm15))), List.forall_mem_cons.mpr ⟨(List.mem_cons_of_mem _ (List.mem_append_right _ (List.mem_append_left _ lm16))), List.forall_mem_cons.mpr ⟨(List.mem_cons_of_mem _ (List.mem_append_right _ (List.mem_append_left _ lm17))), List.forall_mem_cons.mpr ⟨(List.mem_cons_of_mem _ (List.mem_append_right _ (List.mem_append_left _ lm18))), List.forall_mem_cons.mpr ⟨(List.mem_cons_of_mem _ (List.mem_append_right _ (List.mem_append_left _ lm19))), List.forall_mem_cons.mpr ⟨(List.mem_cons_of_mem _ (List.mem_append_right _ (List.mem_append_left _ lm20))), List.forall_mem_cons.mpr ⟨(List.mem_cons_of_mem _ (List.mem_append_right _ (List.mem_append_left _ lm21))), List.forall_mem_cons.mpr ⟨(List.mem_cons_of_mem _ (List.mem_append_right _ (List.mem_append_left _ lm22))), List.forall_mem_cons.mpr ⟨(List.mem_cons_of_mem _ (List.mem_append_right _ (List.mem_append_left _ lm23))), List.forall_mem_cons.mpr ⟨(List.mem_cons_of_mem _ (List.mem_append_right _ (List.mem_append_right _ (List.mem_append_left _ lm0)))), List.forall_mem_cons.mpr ⟨(List.mem_cons_of_mem _ (List.mem_append_right _ (List.mem_append_right _ (List.mem_append_left _ lm1)))), List.forall_mem_cons.mpr ⟨(List.mem_cons_of_mem _ (List.mem_append_right _ (List.mem_append_right _ (List.mem_append_left _ lm2)))), List.forall_mem_cons.mpr ⟨(List.mem_cons_of_mem _ (List.mem_append_right _ (List.mem_append_right _ (List.mem_append_left _ lm3)))), (fun _ h => absurd h List.not_mem_nil)⟩⟩⟩⟩⟩⟩⟩⟩⟩⟩⟩⟩⟩⟩⟩⟩⟩⟩⟩⟩⟩⟩⟩⟩, List.forall_mem_append.mpr ⟨List.forall_mem_cons.mpr ⟨(List.mem_cons_of_mem _ (List.mem_append_right _ (List.mem_append_right _ (List.mem_append_left _ lm4)))), List.forall_mem_cons.mpr ⟨(List.mem_cons_of_mem _ (List.mem_append_right _ (List.mem_append_right _ (List.mem_append_left _ lm5)))), List.forall_mem_cons.mpr ⟨(List.mem_cons_of_mem _ (List.mem_append_right _ (List.mem_append_right _ (List.mem_append_left _ lm6)))), List.forall_mem_cons.mpr ⟨(List.mem_cons_of_mem _ (List.mem_append_right _ (List.mem_append_right _ (List.mem_append_left _ lm7)))), List.forall_mem_cons.mpr ⟨(List.mem_cons_of_mem _ (List.mem_append_right _ (List.mem_append_right _ (List.mem_append_left _ lm8)))), List.forall_mem_cons.mpr ⟨(List.mem_cons_of_mem _ (List.mem_append_right _ (List.mem_append_right _ (List.mem_append_left _ lm9)))), List.forall_mem_cons.mpr ⟨(List.mem_cons_of_mem _ (List.mem_append_right _ (List.mem_append_right _ (List.mem_append_left _ lm10)))), List.forall_mem_cons.mpr ⟨(List.mem_cons_of_mem _ (List.mem_append_right _ (List.mem_append_right _ (List.mem_append_left _ lm11)))), List.forall_mem_cons.mpr ⟨(List.mem_cons_of_mem _ (List.mem_append_right _ (List.mem_append_right _ (List.mem_append_left _ lm12)))), List.forall_mem_cons.mpr ⟨(List.mem_cons_of_mem _ (List.mem_append_right _ (List.mem_append_right _ (List.mem_append_left _ lm13)))), List.forall_mem_cons.mpr ⟨(List.mem_cons_of_mem _ (List.mem_append_right _ (List.mem_append_right _ (List.mem_append_left _ lm14)))), List.forall_mem_cons.mpr ⟨(List.mem_cons_of_mem _ (List.mem_append_right _ (List.mem_append_right _ (List.mem_append_left _ lm15)))), List.forall_mem_cons.mpr ⟨(List.mem_cons_of_mem _ (List.mem_append_right _ (List.mem_append_right _ (List.mem_append_left _ lm16)))), List.forall_mem_cons.mpr ⟨(List.mem_cons_of_mem _ (List.mem_append_right _ (List.mem_append_right _ (List.mem_append_left _ lm17)))), List.forall_mem_cons.mpr ⟨(List.mem_cons_of_mem _ (List.mem_append_right _ (List.mem_append_right _ (List.mem_append_left _ lm18)))), List.forall_mem_cons.mpr ⟨(List.mem_cons_of_mem _ (List.mem_append_right _ (List.mem_append_right _ (List.mem_append_left _ lm19)))), List.forall_mem_cons.mpr ⟨(List.mem_cons_of_mem _ (List.mem_append_right _ (List.mem_append_right _ (List.mem_append_left _ lm20)))), List.forall_mem_cons.mpr ⟨(List.mem_cons_of_mem _ (List.mem_append_right _ (List.mem_append_right _ (List.mem_append_left _ lm21)))), List.forall_mem_cons.mpr ⟨(List.mem_cons_of_mem _ (List.mem_append_right _ (List.mem_append_right _ (List.mem_append_left _ lm22)))), List.forall_mem_cons.mpr ⟨(List.mem_cons_of_mem _ (List.mem_append_right _ (List.mem_append_right _ (List.mem_append_left _ lm23)))), List.forall_mem_cons.mpr ⟨(List.mem_cons_of_mem _ (List.mem_append_right _ (List.mem_append_right _ (List.mem_append_right _ lm0)))), List.forall_mem_cons.mpr ⟨(List.mem_cons_of_mem _ (List.mem_append_right _ (List.mem_append_right _ (List.mem_append_right _ lm1)))), List.forall_mem_cons.mpr ⟨(List.mem_cons_of_mem _ (List.mem_append_right _ (List.mem_append_right _ (List.mem_append_right _ lm2)))), List.forall_mem_cons.mpr ⟨(List.mem_cons_of_mem _ (List.mem_append_right _ (List.mem_append_right _ (List.mem_append_right _ lm3)))), (fun _ h => absurd h List.not_mem_nil)⟩⟩⟩⟩⟩⟩⟩⟩⟩⟩⟩⟩⟩⟩⟩⟩⟩⟩⟩⟩⟩⟩⟩⟩, List.forall_mem_cons.mpr ⟨(List.mem_cons_of_mem _ (List.mem_append_right _ (List.mem_append_right _ (List.mem_append_right _ lm4)))), List.forall_mem_cons.mpr ⟨(List.mem_cons_of_mem _ (List.mem_append_right _ (List.mem_append_right _ (List.mem_append_right _ lm5)))), List.forall_mem_cons.mpr ⟨(List.mem_cons_of_mem _ (List.mem_append_right _ (List.mem_append_right _ (List.mem_append_right _ lm6)))), List.forall_mem_cons.mpr ⟨(List.mem_cons_of_mem _ (List.mem_append_right _ (List.mem_append_right _ (List.mem_append_right _ lm7)))), List.forall_mem_cons.mpr ⟨(List.mem_cons_of_mem _ (List.mem_append_right _ (List.mem_append_right _ (List.mem_append_right _ lm8)))), List.forall_mem_cons.mpr ⟨(List.mem_cons_of_mem _ (List.mem_append_right _ (List.mem_append_right _ (List.mem_append_right _ lm9)))), List.forall_mem_cons.mpr ⟨(List.mem_cons_of_mem _ (List.mem_append_right _ (List.mem_append_right _ (List.mem_append_right _ lm10)))), List.forall_mem_cons.mpr ⟨(List.mem_cons_of_mem _ (List.mem_append_right _ (List.mem_append_right _ (List.mem_append_right _ lm11)))), List.forall_mem_cons.mpr ⟨(List.mem_cons_of_mem _ (List.mem_append_right _ (List.mem_append_right _ (List.mem_append_right _ lm12)))), (fun _ h => absurd h List.not_mem_nil)⟩⟩⟩⟩⟩⟩⟩⟩⟩⟩⟩⟩⟩) gw_J0_indexOf_7cf53)
set_option maxHeartbeats 2000000 in
set_option maxRecDepth 100000 in
theorem k_canEncode (l : Launch) (D : va_G) (g : Nat → Nat) (ka : Nat → ClassId) (ad : Nat → Nat) (i : Nat → Nat → Int32) (r : Nat → Nat → Nat) (L : Nat → Nat → Int64) (d : Nat → Nat → UInt64) (x : Int32) (hO : OkI i) (hR : RS r) (sz : Nat)  : Met l yJ1_canEncode_9a6ad wsJ1_canEncode_9a6ad ({ frames := 0, cells := 0, slots := 0, locals := 0 }) (va_Pc [.int x] (sj_B D (hwc g ka i r L d) (hT ka) sz (gx ad (va_A (hwc g ka i r L d) sz)))) (sj_Qi (S := Unit) D (fun v u => ((0 : Int) ≤ v.toInt ∧ v.toInt ≤ 1) ∧ ((v.toInt = 1 ∧ 0 ≤ x.toInt ∧ x.toInt ≤ 255) ∨ (v.toInt = 0 ∧ (x.toInt < 0 ∨ 255 < x.toInt)))) (fun _ => hwc g ka i r L d) (fun _ => []) (va_A (hwc g ka i r L d) sz)) 0 0 (va_A (hwc g ka i r L d) sz) := by
  refine x_met (Ex := gx ad) (cc := cJ1_canEncode_9a6ad) (maxL := 1) (ret := (some .boolean)) (by decide) rfl (Nat.le_of_ble_eq_true rfl) ?_
  intro p e s m below meth c A ls hx hb hr hml hts hown hlocks hA hS hH hK hE hl
  have hown : s.vm.findClass RJ1 = some m.cls := hown
  have hl : lv_has ls 1 [(0, .int x)] := hl
  have hK : va_K D vwCl (hT ka) s := hK
  have hg_1 := s_rng x
  refine lv_iload_n hx hb dJ1_canEncode_9a6ad_0 rfl (lv_at hl 0 rfl) ?_
  refine lv_if_lt (tgt := 15) hx hb dJ1_canEncode_9a6ad_1 (by decide) (fun c_2 => ?_) (fun c_2 => ?_)
  · skip
    have h_3 := s_lt (rfl : x.toInt = _) (show (0 : Int32).toInt = 0 from rfl) c_2
    refine lv_iconst (v := 0) hx hb dJ1_canEncode_9a6ad_15 (by decide) ?_
    have hlv_4 : (0 : Int32).toInt = 0 := rfl
    exact sj_zret hx hb hr hlocks (by decide +kernel) hS () ⟨⟨by decide, by decide⟩, (by have h9 : (0 : Int32).toInt = 0 := rfl; omega)⟩ hH (sj_Knil hK) (Nat.le_of_ble_eq_true rfl) (Nat.le_of_ble_eq_true rfl) dJ1_canEncode_9a6ad_16
  · skip
    have h_5 := s_nlt (rfl : x.toInt = _) (show (0 : Int32).toInt = 0 from rfl) c_2
    refine lv_iload_n hx hb dJ1_canEncode_9a6ad_4 rfl (lv_at hl 0 rfl) ?_
    refine lv_sipush (v := 255) hx hb dJ1_canEncode_9a6ad_5 (by decide) ?_
    refine lv_icmp_gt (tgt := 15) hx hb dJ1_canEncode_9a6ad_8 (by decide) (fun c_6 => ?_) (fun c_6 => ?_)
    · skip
      have h_7 := s_lt (show (255 : Int32).toInt = 255 from rfl) (rfl : x.toInt = _) c_6
      refine lv_iconst (v := 0) hx hb dJ1_canEncode_9a6ad_15 (by decide) ?_
      have hlv_8 : (0 : Int32).toInt = 0 := rfl
      exact sj_zret hx hb hr hlocks (by decide +kernel) hS () ⟨⟨by decide, by decide⟩, (by have h9 : (0 : Int32).toInt = 0 := rfl; omega)⟩ hH (sj_Knil hK) (Nat.le_of_ble_eq_true rfl) (Nat.le_of_ble_eq_true rfl) dJ1_canEncode_9a6ad_16
    · skip
      have h_9 := s_nlt (show (255 : Int32).toInt = 255 from rfl) (rfl : x.toInt = _) c_6
      refine lv_iconst (v := 1) hx hb dJ1_canEncode_9a6ad_11 (by decide) ?_
      refine lv_goto (tgt := 16) hx hb dJ1_canEncode_9a6ad_12 (by decide) ?_
      have hlv_10 : (1 : Int32).toInt = 1 := rfl
      exact sj_zret hx hb hr hlocks (by decide +kernel) hS () ⟨⟨by decide, by decide⟩, (by have h9 : (1 : Int32).toInt = 1 := rfl; omega)⟩ hH (sj_Knil hK) (Nat.le_of_ble_eq_true rfl) (Nat.le_of_ble_eq_true rfl) dJ1_canEncode_9a6ad_16
set_option maxHeartbeats 2000000 in
set_option maxRecDepth 100000 in
theorem k_isLatin1_0 (l : Launch) (D : va_G) (g : Nat → Nat) (ka : Nat → ClassId) (ad : Nat → Nat) (i : Nat → Nat → Int32) (r : Nat → Nat → Nat) (L : Nat → Nat → Int64) (d : Nat → Nat → UInt64)  (hO : OkI i) (hR : RS r) (sz : Nat)  : Met l yJ0_isLatin1_aae02 wsJ0_isLatin1_aae02 ({ frames := 0, cells := 0, slots := 0, locals := 0 }) (va_Pc [.ref (ad 0)] (sj_B D (hwc g ka i r L d) (hT ka) sz (gx ad (va_A (hwc g ka i r L d) sz)))) (sj_Qi (S := Unit) D (fun v u => ((1 : Int) ≤ v.toInt ∧ v.toInt ≤ 1)) (fun _ => hwc g ka i r L d) (fun _ => []) (va_A (hwc g ka i r L d) sz)) 0 0 (va_A (hwc g ka i r L d) sz) := by
  refine x_met (Ex := gx ad) (cc := cJ0_isLatin1_aae02) (maxL := 1) (ret := (some .boolean)) (by decide) rfl (Nat.le_of_ble_eq_true rfl) ?_
  intro p e s m below meth c A ls hx hb hr hml hts hown hlocks hA hS hH hK hE hl
  have hown : s.vm.findClass RJ0 = some m.cls := hown
  have wd0 := hts (.fieldLink RJ0 38 "java/lang/String" "COMPACT_STRINGS" "Z") (List.mem_cons_of_mem _ lm0)
  have wd1 := hts (.fieldLink RJ0 15 "java/lang/String" "coder" "B") (List.mem_cons_of_mem _ lm1)
  have hl : lv_has ls 1 [(0, .ref (ad 0))] := hl
  have hK : va_K D vwCl (hT ka) s := hK
  refine va_gets hx hb hE.1.2.1 hS hown wd0 (fun _ h9 => h9) dJ0_isLatin1_aae02_0 ?_
  refine lv_if_eq (tgt := 17) hx hb dJ0_isLatin1_aae02_3 (by decide) (fun h => absurd h (by decide)) (fun _ => ?_)
  refine lv_aload_n hx hb dJ0_isLatin1_aae02_6 rfl (lv_at hl 0 rfl) ?_
  refine vk_getf hx hb (hE.1.1.1 0 (by decide)).2.1 hS hown wd1 (fun _ h9 => h9) dJ0_isLatin1_aae02_7 ?_
  refine lv_if_ne (tgt := 17) hx hb dJ0_isLatin1_aae02_10 (by decide) (fun h => absurd (by decide) h) (fun _ => ?_)
  refine lv_iconst (v := 1) hx hb dJ0_isLatin1_aae02_13 (by decide) ?_
  refine lv_goto (tgt := 18) hx hb dJ0_isLatin1_aae02_14 (by decide) ?_
  exact sj_zret hx hb hr hlocks (by decide +kernel) hS () ⟨by decide, by decide⟩ hH (sj_Knil hK) (Nat.le_of_ble_eq_true rfl) (Nat.le_of_ble_eq_true rfl) dJ0_isLatin1_aae02_18
set_option maxHeartbeats 2000000 in
set_option maxRecDepth 100000 in
theorem k_coder_0 (l : Launch) (D : va_G) (g : Nat → Nat) (ka : Nat → ClassId) (ad : Nat → Nat) (i : Nat → Nat → Int32) (r : Nat → Nat → Nat) (L : Nat → Nat → Int64) (d : Nat → Nat → UInt64)  (hO : OkI i) (hR : RS r) (sz : Nat)  : Met l yJ0_coder_7d493 wsJ0_coder_7d493 ({ frames := 0, cells := 0, slots := 0, locals := 0 }) (va_Pc [.ref (ad 0)] (sj_B D (hwc g ka i r L d) (hT ka) sz (gx ad (va_A (hwc g ka i r L d) sz)))) (sj_Qi (S := Unit) D (fun v u => ((0 : Int) ≤ v.toInt ∧ v.toInt ≤ 0)) (fun _ => hwc g ka i r L d) (fun _ => []) (va_A (hwc g ka i r L d) sz)) 0 0 (va_A (hwc g ka i r L d) sz) := by
  refine x_met (Ex := gx ad) (cc := cJ0_coder_7d493) (maxL := 1) (ret := (some .byte)) (by decide) rfl (Nat.le_of_ble_eq_true rfl) ?_
  intro p e s m below meth c A ls hx hb hr hml hts hown hlocks hA hS hH hK hE hl
  have hown : s.vm.findClass RJ0 = some m.cls := hown
  have wd0 := hts (.fieldLink RJ0 38 "java/lang/String" "COMPACT_STRINGS" "Z") (List.mem_cons_of_mem _ lm0)
  have wd1 := hts (.fieldLink RJ0 15 "java/lang/String" "coder" "B") (List.mem_cons_of_mem _ lm1)
  have hl : lv_has ls 1 [(0, .ref (ad 0))] := hl
  have hK : va_K D vwCl (hT ka) s := hK
  refine va_gets hx hb hE.1.2.1 hS hown wd0 (fun _ h9 => h9) dJ0_coder_7d493_0 ?_
  refine lv_if_eq (tgt := 13) hx hb dJ0_coder_7d493_3 (by decide) (fun h => absurd h (by decide)) (fun _ => ?_)
  refine lv_aload_n hx hb dJ0_coder_7d493_6 rfl (lv_at hl 0 rfl) ?_
  refine vk_getf hx hb (hE.1.1.1 0 (by decide)).2.1 hS hown wd1 (fun _ h9 => h9) dJ0_coder_7d493_7 ?_
  refine lv_goto (tgt := 14) hx hb dJ0_coder_7d493_10 (by decide) ?_
  exact sj_zret hx hb hr hlocks (by decide +kernel) hS () ⟨by decide, by decide⟩ hH (sj_Knil hK) (Nat.le_of_ble_eq_true rfl) (Nat.le_of_ble_eq_true rfl) dJ0_coder_7d493_14
set_option maxHeartbeats 2000000 in
set_option maxRecDepth 100000 in
theorem k_isLatin1_1 (l : Launch) (D : va_G) (g : Nat → Nat) (ka : Nat → ClassId) (ad : Nat → Nat) (i : Nat → Nat → Int32) (r : Nat → Nat → Nat) (L : Nat → Nat → Int64) (d : Nat → Nat → UInt64)  (hO : OkI i) (hR : RS r) (sz : Nat)  : Met l yJ0_isLatin1_aae02 wsJ0_isLatin1_aae02 ({ frames := 0, cells := 0, slots := 0, locals := 0 }) (va_Pc [.ref (ad 1)] (sj_B D (hwc g ka i r L d) (hT ka) sz (gx ad (va_A (hwc g ka i r L d) sz)))) (sj_Qi (S := Unit) D (fun v u => ((1 : Int) ≤ v.toInt ∧ v.toInt ≤ 1)) (fun _ => hwc g ka i r L d) (fun _ => []) (va_A (hwc g ka i r L d) sz)) 0 0 (va_A (hwc g ka i r L d) sz) := by
  refine x_met (Ex := gx ad) (cc := cJ0_isLatin1_aae02) (maxL := 1) (ret := (some .boolean)) (by decide) rfl (Nat.le_of_ble_eq_true rfl) ?_
  intro p e s m below meth c A ls hx hb hr hml hts hown hlocks hA hS hH hK hE hl
  have hown : s.vm.findClass RJ0 = some m.cls := hown
  have wd0 := hts (.fieldLink RJ0 38 "java/lang/String" "COMPACT_STRINGS" "Z") (List.mem_cons_of_mem _ lm0)
  have wd1 := hts (.fieldLink RJ0 15 "java/lang/String" "coder" "B") (List.mem_cons_of_mem _ lm1)
  have hl : lv_has ls 1 [(0, .ref (ad 1))] := hl
  have hK : va_K D vwCl (hT ka) s := hK
  refine va_gets hx hb hE.1.2.1 hS hown wd0 (fun _ h9 => h9) dJ0_isLatin1_aae02_0 ?_
  refine lv_if_eq (tgt := 17) hx hb dJ0_isLatin1_aae02_3 (by decide) (fun h => absurd h (by decide)) (fun _ => ?_)
  refine lv_aload_n hx hb dJ0_isLatin1_aae02_6 rfl (lv_at hl 0 rfl) ?_
  refine vk_getf hx hb (hE.1.1.1 1 (by decide)).2.1 hS hown wd1 (fun _ h9 => h9) dJ0_isLatin1_aae02_7 ?_
  refine lv_if_ne (tgt := 17) hx hb dJ0_isLatin1_aae02_10 (by decide) (fun h => absurd (by decide) h) (fun _ => ?_)
  refine lv_iconst (v := 1) hx hb dJ0_isLatin1_aae02_13 (by decide) ?_
  refine lv_goto (tgt := 18) hx hb dJ0_isLatin1_aae02_14 (by decide) ?_
  exact sj_zret hx hb hr hlocks (by decide +kernel) hS () ⟨by decide, by decide⟩ hH (sj_Knil hK) (Nat.le_of_ble_eq_true rfl) (Nat.le_of_ble_eq_true rfl) dJ0_isLatin1_aae02_18
set_option maxHeartbeats 2000000 in
set_option maxRecDepth 100000 in
theorem k_coder_1 (l : Launch) (D : va_G) (g : Nat → Nat) (ka : Nat → ClassId) (ad : Nat → Nat) (i : Nat → Nat → Int32) (r : Nat → Nat → Nat) (L : Nat → Nat → Int64) (d : Nat → Nat → UInt64)  (hO : OkI i) (hR : RS r) (sz : Nat)  : Met l yJ0_coder_7d493 wsJ0_coder_7d493 ({ frames := 0, cells := 0, slots := 0, locals := 0 }) (va_Pc [.ref (ad 1)] (sj_B D (hwc g ka i r L d) (hT ka) sz (gx ad (va_A (hwc g ka i r L d) sz)))) (sj_Qi (S := Unit) D (fun v u => ((0 : Int) ≤ v.toInt ∧ v.toInt ≤ 0)) (fun _ => hwc g ka i r L d) (fun _ => []) (va_A (hwc g ka i r L d) sz)) 0 0 (va_A (hwc g ka i r L d) sz) := by
  refine x_met (Ex := gx ad) (cc := cJ0_coder_7d493) (maxL := 1) (ret := (some .byte)) (by decide) rfl (Nat.le_of_ble_eq_true rfl) ?_
  intro p e s m below meth c A ls hx hb hr hml hts hown hlocks hA hS hH hK hE hl
  have hown : s.vm.findClass RJ0 = some m.cls := hown
  have wd0 := hts (.fieldLink RJ0 38 "java/lang/String" "COMPACT_STRINGS" "Z") (List.mem_cons_of_mem _ lm0)
  have wd1 := hts (.fieldLink RJ0 15 "java/lang/String" "coder" "B") (List.mem_cons_of_mem _ lm1)
  have hl : lv_has ls 1 [(0, .ref (ad 1))] := hl
  have hK : va_K D vwCl (hT ka) s := hK
  refine va_gets hx hb hE.1.2.1 hS hown wd0 (fun _ h9 => h9) dJ0_coder_7d493_0 ?_
  refine lv_if_eq (tgt := 13) hx hb dJ0_coder_7d493_3 (by decide) (fun h => absurd h (by decide)) (fun _ => ?_)
  refine lv_aload_n hx hb dJ0_coder_7d493_6 rfl (lv_at hl 0 rfl) ?_
  refine vk_getf hx hb (hE.1.1.1 1 (by decide)).2.1 hS hown wd1 (fun _ h9 => h9) dJ0_coder_7d493_7 ?_
  refine lv_goto (tgt := 14) hx hb dJ0_coder_7d493_10 (by decide) ?_
  exact sj_zret hx hb hr hlocks (by decide +kernel) hS () ⟨by decide, by decide⟩ hH (sj_Knil hK) (Nat.le_of_ble_eq_true rfl) (Nat.le_of_ble_eq_true rfl) dJ0_coder_7d493_14
set_option maxHeartbeats 2000000 in
set_option maxRecDepth 100000 in
theorem k_isLatin1_2 (l : Launch) (D : va_G) (g : Nat → Nat) (ka : Nat → ClassId) (ad : Nat → Nat) (i : Nat → Nat → Int32) (r : Nat → Nat → Nat) (L : Nat → Nat → Int64) (d : Nat → Nat → UInt64)  (hO : OkI i) (hR : RS r) (sz : Nat)  : Met l yJ0_isLatin1_aae02 wsJ0_isLatin1_aae02 ({ frames := 0, cells := 0, slots := 0, locals := 0 }) (va_Pc [.ref (ad 2)] (sj_B D (hwc g ka i r L d) (hT ka) sz (gx ad (va_A (hwc g ka i r L d) sz)))) (sj_Qi (S := Unit) D (fun v u => ((1 : Int) ≤ v.toInt ∧ v.toInt ≤ 1)) (fun _ => hwc g ka i r L d) (fun _ => []) (va_A (hwc g ka i r L d) sz)) 0 0 (va_A (hwc g ka i r L d) sz) := by
  refine x_met (Ex := gx ad) (cc := cJ0_isLatin1_aae02) (maxL := 1) (ret := (some .boolean)) (by decide) rfl (Nat.le_of_ble_eq_true rfl) ?_
  intro p e s m below meth c A ls hx hb hr hml hts hown hlocks hA hS hH hK hE hl
  have hown : s.vm.findClass RJ0 = some m.cls := hown
  have wd0 := hts (.fieldLink RJ0 38 "java/lang/String" "COMPACT_STRINGS" "Z") (List.mem_cons_of_mem _ lm0)
  have wd1 := hts (.fieldLink RJ0 15 "java/lang/String" "coder" "B") (List.mem_cons_of_mem _ lm1)
  have hl : lv_has ls 1 [(0, .ref (ad 2))] := hl
  have hK : va_K D vwCl (hT ka) s := hK
  refine va_gets hx hb hE.1.2.1 hS hown wd0 (fun _ h9 => h9) dJ0_isLatin1_aae02_0 ?_
  refine lv_if_eq (tgt := 17) hx hb dJ0_isLatin1_aae02_3 (by decide) (fun h => absurd h (by decide)) (fun _ => ?_)
  refine lv_aload_n hx hb dJ0_isLatin1_aae02_6 rfl (lv_at hl 0 rfl) ?_
  refine vk_getf hx hb (hE.1.1.1 2 (by decide)).2.1 hS hown wd1 (fun _ h9 => h9) dJ0_isLatin1_aae02_7 ?_
  refine lv_if_ne (tgt := 17) hx hb dJ0_isLatin1_aae02_10 (by decide) (fun h => absurd (by decide) h) (fun _ => ?_)
  refine lv_iconst (v := 1) hx hb dJ0_isLatin1_aae02_13 (by decide) ?_
  refine lv_goto (tgt := 18) hx hb dJ0_isLatin1_aae02_14 (by decide) ?_
  exact sj_zret hx hb hr hlocks (by decide +kernel) hS () ⟨by decide, by decide⟩ hH (sj_Knil hK) (Nat.le_of_ble_eq_true rfl) (Nat.le_of_ble_eq_true rfl) dJ0_isLatin1_aae02_18
set_option maxHeartbeats 2000000 in
set_option maxRecDepth 100000 in
theorem k_coder_2 (l : Launch) (D : va_G) (g : Nat → Nat) (ka : Nat → ClassId) (ad : Nat → Nat) (i : Nat → Nat → Int32) (r : Nat → Nat → Nat) (L : Nat → Nat → Int64) (d : Nat → Nat → UInt64)  (hO : OkI i) (hR : RS r) (sz : Nat)  : Met l yJ0_coder_7d493 wsJ0_coder_7d493 ({ frames := 0, cells := 0, slots := 0, locals := 0 }) (va_Pc [.ref (ad 2)] (sj_B D (hwc g ka i r L d) (hT ka) sz (gx ad (va_A (hwc g ka i r L d) sz)))) (sj_Qi (S := Unit) D (fun v u => ((0 : Int) ≤ v.toInt ∧ v.toInt ≤ 0)) (fun _ => hwc g ka i r L d) (fun _ => []) (va_A (hwc g ka i r L d) sz)) 0 0 (va_A (hwc g ka i r L d) sz) := by
  refine x_met (Ex := gx ad) (cc := cJ0_coder_7d493) (maxL := 1) (ret := (some .byte)) (by decide) rfl (Nat.le_of_ble_eq_true rfl) ?_
  intro p e s m below meth c A ls hx hb hr hml hts hown hlocks hA hS hH hK hE hl
  have hown : s.vm.findClass RJ0 = some m.cls := hown
  have wd0 := hts (.fieldLink RJ0 38 "java/lang/String" "COMPACT_STRINGS" "Z") (List.mem_cons_of_mem _ lm0)
  have wd1 := hts (.fieldLink RJ0 15 "java/lang/String" "coder" "B") (List.mem_cons_of_mem _ lm1)
  have hl : lv_has ls 1 [(0, .ref (ad 2))] := hl
  have hK : va_K D vwCl (hT ka) s := hK
  refine va_gets hx hb hE.1.2.1 hS hown wd0 (fun _ h9 => h9) dJ0_coder_7d493_0 ?_
  refine lv_if_eq (tgt := 13) hx hb dJ0_coder_7d493_3 (by decide) (fun h => absurd h (by decide)) (fun _ => ?_)
  refine lv_aload_n hx hb dJ0_coder_7d493_6 rfl (lv_at hl 0 rfl) ?_
  refine vk_getf hx hb (hE.1.1.1 2 (by decide)).2.1 hS hown wd1 (fun _ h9 => h9) dJ0_coder_7d493_7 ?_
  refine lv_goto (tgt := 14) hx hb dJ0_coder_7d493_10 (by decide) ?_
  exact sj_zret hx hb hr hlocks (by decide +kernel) hS () ⟨by decide, by decide⟩ hH (sj_Knil hK) (Nat.le_of_ble_eq_true rfl) (Nat.le_of_ble_eq_true rfl) dJ0_coder_7d493_14
set_option maxHeartbeats 2000000 in
set_option maxRecDepth 100000 in
theorem k_isLatin1_3 (l : Launch) (D : va_G) (g : Nat → Nat) (ka : Nat → ClassId) (ad : Nat → Nat) (i : Nat → Nat → Int32) (r : Nat → Nat → Nat) (L : Nat → Nat → Int64) (d : Nat → Nat → UInt64)  (hO : OkI i) (hR : RS r) (sz : Nat)  : Met l yJ0_isLatin1_aae02 wsJ0_isLatin1_aae02 ({ frames := 0, cells := 0, slots := 0, locals := 0 }) (va_Pc [.ref (ad 3)] (sj_B D (hwc g ka i r L d) (hT ka) sz (gx ad (va_A (hwc g ka i r L d) sz)))) (sj_Qi (S := Unit) D (fun v u => ((1 : Int) ≤ v.toInt ∧ v.toInt ≤ 1)) (fun _ => hwc g ka i r L d) (fun _ => []) (va_A (hwc g ka i r L d) sz)) 0 0 (va_A (hwc g ka i r L d) sz) := by
  refine x_met (Ex := gx ad) (cc := cJ0_isLatin1_aae02) (maxL := 1) (ret := (some .boolean)) (by decide) rfl (Nat.le_of_ble_eq_true rfl) ?_
  intro p e s m below meth c A ls hx hb hr hml hts hown hlocks hA hS hH hK hE hl
  have hown : s.vm.findClass RJ0 = some m.cls := hown
  have wd0 := hts (.fieldLink RJ0 38 "java/lang/String" "COMPACT_STRINGS" "Z") (List.mem_cons_of_mem _ lm0)
  have wd1 := hts (.fieldLink RJ0 15 "java/lang/String" "coder" "B") (List.mem_cons_of_mem _ lm1)
  have hl : lv_has ls 1 [(0, .ref (ad 3))] := hl
  have hK : va_K D vwCl (hT ka) s := hK
  refine va_gets hx hb hE.1.2.1 hS hown wd0 (fun _ h9 => h9) dJ0_isLatin1_aae02_0 ?_
  refine lv_if_eq (tgt := 17) hx hb dJ0_isLatin1_aae02_3 (by decide) (fun h => absurd h (by decide)) (fun _ => ?_)
  refine lv_aload_n hx hb dJ0_isLatin1_aae02_6 rfl (lv_at hl 0 rfl) ?_
  refine vk_getf hx hb (hE.1.1.1 3 (by decide)).2.1 hS hown wd1 (fun _ h9 => h9) dJ0_isLatin1_aae02_7 ?_
  refine lv_if_ne (tgt := 17) hx hb dJ0_isLatin1_aae02_10 (by decide) (fun h => absurd (by decide) h) (fun _ => ?_)
  refine lv_iconst (v := 1) hx hb dJ0_isLatin1_aae02_13 (by decide) ?_
  refine lv_goto (tgt := 18) hx hb dJ0_isLatin1_aae02_14 (by decide) ?_
  exact sj_zret hx hb hr hlocks (by decide +kernel) hS () ⟨by decide, by decide⟩ hH (sj_Knil hK) (Nat.le_of_ble_eq_true rfl) (Nat.le_of_ble_eq_true rfl) dJ0_isLatin1_aae02_18
set_option maxHeartbeats 2000000 in
set_option maxRecDepth 100000 in
theorem k_coder_3 (l : Launch) (D : va_G) (g : Nat → Nat) (ka : Nat → ClassId) (ad : Nat → Nat) (i : Nat → Nat → Int32) (r : Nat → Nat → Nat) (L : Nat → Nat → Int64) (d : Nat → Nat → UInt64)  (hO : OkI i) (hR : RS r) (sz : Nat)  : Met l yJ0_coder_7d493 wsJ0_coder_7d493 ({ frames := 0, cells := 0, slots := 0, locals := 0 }) (va_Pc [.ref (ad 3)] (sj_B D (hwc g ka i r L d) (hT ka) sz (gx ad (va_A (hwc g ka i r L d) sz)))) (sj_Qi (S := Unit) D (fun v u => ((0 : Int) ≤ v.toInt ∧ v.toInt ≤ 0)) (fun _ => hwc g ka i r L d) (fun _ => []) (va_A (hwc g ka i r L d) sz)) 0 0 (va_A (hwc g ka i r L d) sz) := by
  refine x_met (Ex := gx ad) (cc := cJ0_coder_7d493) (maxL := 1) (ret := (some .byte)) (by decide) rfl (Nat.le_of_ble_eq_true rfl) ?_
  intro p e s m below meth c A ls hx hb hr hml hts hown hlocks hA hS hH hK hE hl
  have hown : s.vm.findClass RJ0 = some m.cls := hown
  have wd0 := hts (.fieldLink RJ0 38 "java/lang/String" "COMPACT_STRINGS" "Z") (List.mem_cons_of_mem _ lm0)
  have wd1 := hts (.fieldLink RJ0 15 "java/lang/String" "coder" "B") (List.mem_cons_of_mem _ lm1)
  have hl : lv_has ls 1 [(0, .ref (ad 3))] := hl
  have hK : va_K D vwCl (hT ka) s := hK
  refine va_gets hx hb hE.1.2.1 hS hown wd0 (fun _ h9 => h9) dJ0_coder_7d493_0 ?_
  refine lv_if_eq (tgt := 13) hx hb dJ0_coder_7d493_3 (by decide) (fun h => absurd h (by decide)) (fun _ => ?_)
  refine lv_aload_n hx hb dJ0_coder_7d493_6 rfl (lv_at hl 0 rfl) ?_
  refine vk_getf hx hb (hE.1.1.1 3 (by decide)).2.1 hS hown wd1 (fun _ h9 => h9) dJ0_coder_7d493_7 ?_
  refine lv_goto (tgt := 14) hx hb dJ0_coder_7d493_10 (by decide) ?_
  exact sj_zret hx hb hr hlocks (by decide +kernel) hS () ⟨by decide, by decide⟩ hH (sj_Knil hK) (Nat.le_of_ble_eq_true rfl) (Nat.le_of_ble_eq_true rfl) dJ0_coder_7d493_14
set_option maxHeartbeats 2000000 in
set_option maxRecDepth 100000 in
theorem k_isLatin1_4 (l : Launch) (D : va_G) (g : Nat → Nat) (ka : Nat → ClassId) (ad : Nat → Nat) (i : Nat → Nat → Int32) (r : Nat → Nat → Nat) (L : Nat → Nat → Int64) (d : Nat → Nat → UInt64)  (hO : OkI i) (hR : RS r) (sz : Nat)  : Met l yJ0_isLatin1_aae02 wsJ0_isLatin1_aae02 ({ frames := 0, cells := 0, slots := 0, locals := 0 }) (va_Pc [.ref (ad 4)] (sj_B D (hwc g ka i r L d) (hT ka) sz (gx ad (va_A (hwc g ka i r L d) sz)))) (sj_Qi (S := Unit) D (fun v u => ((1 : Int) ≤ v.toInt ∧ v.toInt ≤ 1)) (fun _ => hwc g ka i r L d) (fun _ => []) (va_A (hwc g ka i r L d) sz)) 0 0 (va_A (hwc g ka i r L d) sz) := by
  refine x_met (Ex := gx ad) (cc := cJ0_isLatin1_aae02) (maxL := 1) (ret := (some .boolean)) (by decide) rfl (Nat.le_of_ble_eq_true rfl) ?_
  intro p e s m below meth c A ls hx hb hr hml hts hown hlocks hA hS hH hK hE hl
  have hown : s.vm.findClass RJ0 = some m.cls := hown
  have wd0 := hts (.fieldLink RJ0 38 "java/lang/String" "COMPACT_STRINGS" "Z") (List.mem_cons_of_mem _ lm0)
  have wd1 := hts (.fieldLink RJ0 15 "java/lang/String" "coder" "B") (List.mem_cons_of_mem _ lm1)
  have hl : lv_has ls 1 [(0, .ref (ad 4))] := hl
  have hK : va_K D vwCl (hT ka) s := hK
  refine va_gets hx hb hE.1.2.1 hS hown wd0 (fun _ h9 => h9) dJ0_isLatin1_aae02_0 ?_
  refine lv_if_eq (tgt := 17) hx hb dJ0_isLatin1_aae02_3 (by decide) (fun h => absurd h (by decide)) (fun _ => ?_)
  refine lv_aload_n hx hb dJ0_isLatin1_aae02_6 rfl (lv_at hl 0 rfl) ?_
  refine vk_getf hx hb (hE.1.1.1 4 (by decide)).2.1 hS hown wd1 (fun _ h9 => h9) dJ0_isLatin1_aae02_7 ?_
  refine lv_if_ne (tgt := 17) hx hb dJ0_isLatin1_aae02_10 (by decide) (fun h => absurd (by decide) h) (fun _ => ?_)
  refine lv_iconst (v := 1) hx hb dJ0_isLatin1_aae02_13 (by decide) ?_
  refine lv_goto (tgt := 18) hx hb dJ0_isLatin1_aae02_14 (by decide) ?_
  exact sj_zret hx hb hr hlocks (by decide +kernel) hS () ⟨by decide, by decide⟩ hH (sj_Knil hK) (Nat.le_of_ble_eq_true rfl) (Nat.le_of_ble_eq_true rfl) dJ0_isLatin1_aae02_18
set_option maxHeartbeats 2000000 in
set_option maxRecDepth 100000 in
theorem k_coder_4 (l : Launch) (D : va_G) (g : Nat → Nat) (ka : Nat → ClassId) (ad : Nat → Nat) (i : Nat → Nat → Int32) (r : Nat → Nat → Nat) (L : Nat → Nat → Int64) (d : Nat → Nat → UInt64)  (hO : OkI i) (hR : RS r) (sz : Nat)  : Met l yJ0_coder_7d493 wsJ0_coder_7d493 ({ frames := 0, cells := 0, slots := 0, locals := 0 }) (va_Pc [.ref (ad 4)] (sj_B D (hwc g ka i r L d) (hT ka) sz (gx ad (va_A (hwc g ka i r L d) sz)))) (sj_Qi (S := Unit) D (fun v u => ((0 : Int) ≤ v.toInt ∧ v.toInt ≤ 0)) (fun _ => hwc g ka i r L d) (fun _ => []) (va_A (hwc g ka i r L d) sz)) 0 0 (va_A (hwc g ka i r L d) sz) := by
  refine x_met (Ex := gx ad) (cc := cJ0_coder_7d493) (maxL := 1) (ret := (some .byte)) (by decide) rfl (Nat.le_of_ble_eq_true rfl) ?_
  intro p e s m below meth c A ls hx hb hr hml hts hown hlocks hA hS hH hK hE hl
  have hown : s.vm.findClass RJ0 = some m.cls := hown
  have wd0 := hts (.fieldLink RJ0 38 "java/lang/String" "COMPACT_STRINGS" "Z") (List.mem_cons_of_mem _ lm0)
  have wd1 := hts (.fieldLink RJ0 15 "java/lang/String" "coder" "B") (List.mem_cons_of_mem _ lm1)
  have hl : lv_has ls 1 [(0, .ref (ad 4))] := hl
  have hK : va_K D vwCl (hT ka) s := hK
  refine va_gets hx hb hE.1.2.1 hS hown wd0 (fun _ h9 => h9) dJ0_coder_7d493_0 ?_
  refine lv_if_eq (tgt := 13) hx hb dJ0_coder_7d493_3 (by decide) (fun h => absurd h (by decide)) (fun _ => ?_)
  refine lv_aload_n hx hb dJ0_coder_7d493_6 rfl (lv_at hl 0 rfl) ?_
  refine vk_getf hx hb (hE.1.1.1 4 (by decide)).2.1 hS hown wd1 (fun _ h9 => h9) dJ0_coder_7d493_7 ?_
  refine lv_goto (tgt := 14) hx hb dJ0_coder_7d493_10 (by decide) ?_
  exact sj_zret hx hb hr hlocks (by decide +kernel) hS () ⟨by decide, by decide⟩ hH (sj_Knil hK) (Nat.le_of_ble_eq_true rfl) (Nat.le_of_ble_eq_true rfl) dJ0_coder_7d493_14
set_option maxHeartbeats 2000000 in
set_option maxRecDepth 100000 in
theorem k_indexOfChar_0 (l : Launch) (D : va_G) (g : Nat → Nat) (ka : Nat → ClassId) (ad : Nat → Nat) (i : Nat → Nat → Int32) (r : Nat → Nat → Nat) (L : Nat → Nat → Int64) (d : Nat → Nat → UInt64) (x : Int32) (hO : OkI i) (hR : RS r) (sz : Nat) (h0 : 0 ≤ x.toInt) (h1 : x.toInt ≤ 255) : Met l yJ1_indexOfChar_4cfef wsJ1_indexOfChar_4cfef ({ frames := 0, cells := 0, slots := 0, locals := 0 }) (va_Pc [.ref (ad (5 + 0)), .int x, .int 0, .int 4] (sj_B D (hwc g ka i r L d) (hT ka) sz (gx ad (va_A (hwc g ka i r L d) sz)))) (sj_Qi (S := Unit) D (fun v u => ((-1 : Int) ≤ v.toInt ∧ v.toInt ≤ 4) ∧ ((x.toInt = 105 ∧ v.toInt = 0) ∨ (x.toInt = 100 ∧ v.toInt = 1) ∨ (x.toInt = 119 ∧ v.toInt = 2) ∨ (x.toInt = 115 ∧ v.toInt = 3) ∨ (x.toInt ≠ 105 ∧ x.toInt ≠ 100 ∧ x.toInt ≠ 119 ∧ x.toInt ≠ 115 ∧ v.toInt = -1))) (fun _ => hwc g ka i r L d) (fun _ => []) (va_A (hwc g ka i r L d) sz)) 0 0 (va_A (hwc g ka i r L d) sz) := by
  refine x_met (Ex := gx ad) (cc := cJ1_indexOfChar_4cfef) (maxL := 6) (ret := (some .int)) (by decide) rfl (Nat.le_of_ble_eq_true rfl) ?_
  intro p e s m below meth c A ls hx hb hr hml hts hown hlocks hA hS hH hK hE hl
  have hown : s.vm.findClass RJ1 = some m.cls := hown
  have hl : lv_has ls 6 [(0, .ref (ad (5 + 0))), (1, .int x), (2, .int 0), (3, .int 4)] := hl
  have hK : va_K D vwCl (hT ka) s := hK
  have hg_1 := s_rng x
  refine lv_iload_n hx hb dJ1_indexOfChar_4cfef_0 rfl (lv_at hl 1 rfl) ?_
  refine lv_i2b hx hb dJ1_indexOfChar_4cfef_1 rfl ?_
  refine lv_topi (fun z_2 ez_2 => ?_)
  have hz_2 := s_i2b ez_2 (by omega) (by omega)
  refine lv_istore (lv' := [(4, .int z_2), (0, .ref (ad (5 + 0))), (1, .int x), (2, .int 0), (3, .int 4)]) hx hb dJ1_indexOfChar_4cfef_2 hl (by decide) rfl (fun ls hl => ?_)
  refine lv_iload_n hx hb dJ1_indexOfChar_4cfef_4 rfl (lv_at hl 3 rfl) ?_
  refine lv_istore (lv' := [(5, .int 0), (4, .int z_2), (0, .ref (ad (5 + 0))), (1, .int x), (2, .int 0), (3, .int 4)]) hx hb dJ1_indexOfChar_4cfef_5 hl (by decide) rfl (fun ls hl => ?_)
  refine lv_iload hx hb dJ1_indexOfChar_4cfef_7 (lv_at hl 0 rfl) ?_
  refine lv_iload_n hx hb dJ1_indexOfChar_4cfef_9 rfl (lv_at hl 5 rfl) ?_
  refine lv_icmp_ge (tgt := 31) hx hb dJ1_indexOfChar_4cfef_10 (by decide) (fun h => absurd h (by decide)) (fun _ => ?_)
  refine lv_aload_n hx hb dJ1_indexOfChar_4cfef_13 rfl (lv_at hl 2 rfl) ?_
  refine lv_iload hx hb dJ1_indexOfChar_4cfef_14 (lv_at hl 0 rfl) ?_
  refine va_tb (v := .int 105) hx hb (hE.1.1.1 0 (by decide)).2.2.2 hS (sj_vin (by decide) (by decide)) rfl dJ1_indexOfChar_4cfef_16 ?_
  refine lv_iload hx hb dJ1_indexOfChar_4cfef_17 (lv_at hl 1 rfl) ?_
  refine lv_icmp_ne (tgt := 25) hx hb dJ1_indexOfChar_4cfef_19 (by decide) (fun c_3 => ?_) (fun c_3 => ?_)
  · skip
    have h_4 := s_ne (show (105 : Int32).toInt = 105 from rfl) (rfl : z_2.toInt = _) c_3
    refine lv_iinc (v := 1) (lv' := [(5, .int 1), (4, .int z_2), (0, .ref (ad (5 + 0))), (1, .int x), (2, .int 0), (3, .int 4)]) hx hb dJ1_indexOfChar_4cfef_25 hl (k := 0) rfl (by decide) (by decide) rfl (fun ls hl => ?_)
    refine lv_goto (tgt := 7) hx hb dJ1_indexOfChar_4cfef_28 (by decide) ?_
    refine lv_iload hx hb dJ1_indexOfChar_4cfef_7 (lv_at hl 0 rfl) ?_
    refine lv_iload_n hx hb dJ1_indexOfChar_4cfef_9 rfl (lv_at hl 5 rfl) ?_
    refine lv_icmp_ge (tgt := 31) hx hb dJ1_indexOfChar_4cfef_10 (by decide) (fun h => absurd h (by decide)) (fun _ => ?_)
    refine lv_aload_n hx hb dJ1_indexOfChar_4cfef_13 rfl (lv_at hl 2 rfl) ?_
    refine lv_iload hx hb dJ1_indexOfChar_4cfef_14 (lv_at hl 0 rfl) ?_
    refine va_tb (v := .int 100) hx hb (hE.1.1.1 0 (by decide)).2.2.2 hS (sj_vin (by decide) (by decide)) rfl dJ1_indexOfChar_4cfef_16 ?_
    refine lv_iload hx hb dJ1_indexOfChar_4cfef_17 (lv_at hl 1 rfl) ?_
    refine lv_icmp_ne (tgt := 25) hx hb dJ1_indexOfChar_4cfef_19 (by decide) (fun c_5 => ?_) (fun c_5 => ?_)
    · skip
      have h_6 := s_ne (show (100 : Int32).toInt = 100 from rfl) (rfl : z_2.toInt = _) c_5
      refine lv_iinc (v := 2) (lv' := [(5, .int 2), (4, .int z_2), (0, .ref (ad (5 + 0))), (1, .int x), (2, .int 0), (3, .int 4)]) hx hb dJ1_indexOfChar_4cfef_25 hl (k := 0) rfl (by decide) (by decide) rfl (fun ls hl => ?_)
      refine lv_goto (tgt := 7) hx hb dJ1_indexOfChar_4cfef_28 (by decide) ?_
      refine lv_iload hx hb dJ1_indexOfChar_4cfef_7 (lv_at hl 0 rfl) ?_
      refine lv_iload_n hx hb dJ1_indexOfChar_4cfef_9 rfl (lv_at hl 5 rfl) ?_
      refine lv_icmp_ge (tgt := 31) hx hb dJ1_indexOfChar_4cfef_10 (by decide) (fun h => absurd h (by decide)) (fun _ => ?_)
      refine lv_aload_n hx hb dJ1_indexOfChar_4cfef_13 rfl (lv_at hl 2 rfl) ?_
      refine lv_iload hx hb dJ1_indexOfChar_4cfef_14 (lv_at hl 0 rfl) ?_
      refine va_tb (v := .int 119) hx hb (hE.1.1.1 0 (by decide)).2.2.2 hS (sj_vin (by decide) (by decide)) rfl dJ1_indexOfChar_4cfef_16 ?_
      refine lv_iload hx hb dJ1_indexOfChar_4cfef_17 (lv_at hl 1 rfl) ?_
      refine lv_icmp_ne (tgt := 25) hx hb dJ1_indexOfChar_4cfef_19 (by decide) (fun c_7 => ?_) (fun c_7 => ?_)
      · skip
        have h_8 := s_ne (show (119 : Int32).toInt = 119 from rfl) (rfl : z_2.toInt = _) c_7
        refine lv_iinc (v := 3) (lv' := [(5, .int 3), (4, .int z_2), (0, .ref (ad (5 + 0))), (1, .int x), (2, .int 0), (3, .int 4)]) hx hb dJ1_indexOfChar_4cfef_25 hl (k := 0) rfl (by decide) (by decide) rfl (fun ls hl => ?_)
        refine lv_goto (tgt := 7) hx hb dJ1_indexOfChar_4cfef_28 (by decide) ?_
        refine lv_iload hx hb dJ1_indexOfChar_4cfef_7 (lv_at hl 0 rfl) ?_
        refine lv_iload_n hx hb dJ1_indexOfChar_4cfef_9 rfl (lv_at hl 5 rfl) ?_
        refine lv_icmp_ge (tgt := 31) hx hb dJ1_indexOfChar_4cfef_10 (by decide) (fun h => absurd h (by decide)) (fun _ => ?_)
        refine lv_aload_n hx hb dJ1_indexOfChar_4cfef_13 rfl (lv_at hl 2 rfl) ?_
        refine lv_iload hx hb dJ1_indexOfChar_4cfef_14 (lv_at hl 0 rfl) ?_
        refine va_tb (v := .int 115) hx hb (hE.1.1.1 0 (by decide)).2.2.2 hS (sj_vin (by decide) (by decide)) rfl dJ1_indexOfChar_4cfef_16 ?_
        refine lv_iload hx hb dJ1_indexOfChar_4cfef_17 (lv_at hl 1 rfl) ?_
        refine lv_icmp_ne (tgt := 25) hx hb dJ1_indexOfChar_4cfef_19 (by decide) (fun c_9 => ?_) (fun c_9 => ?_)
        · skip
          have h_10 := s_ne (show (115 : Int32).toInt = 115 from rfl) (rfl : z_2.toInt = _) c_9
          refine lv_iinc (v := 4) (lv' := [(5, .int 4), (4, .int z_2), (0, .ref (ad (5 + 0))), (1, .int x), (2, .int 0), (3, .int 4)]) hx hb dJ1_indexOfChar_4cfef_25 hl (k := 0) rfl (by decide) (by decide) rfl (fun ls hl => ?_)
          refine lv_goto (tgt := 7) hx hb dJ1_indexOfChar_4cfef_28 (by decide) ?_
          refine lv_iload hx hb dJ1_indexOfChar_4cfef_7 (lv_at hl 0 rfl) ?_
          refine lv_iload_n hx hb dJ1_indexOfChar_4cfef_9 rfl (lv_at hl 5 rfl) ?_
          refine lv_icmp_ge (tgt := 31) hx hb dJ1_indexOfChar_4cfef_10 (by decide) (fun _ => ?_) (fun h => absurd (by decide) h)
          refine lv_iconst (v := (-1)) hx hb dJ1_indexOfChar_4cfef_31 (by decide) ?_
          have hlv_11 : ((-1) : Int32).toInt = -1 := rfl
          exact sj_zret hx hb hr hlocks rfl hS () ⟨⟨by decide, by decide⟩, (by have h9 : ((-1) : Int32).toInt = -1 := rfl; omega)⟩ hH (sj_Knil hK) (Nat.le_of_ble_eq_true rfl) (Nat.le_of_ble_eq_true rfl) dJ1_indexOfChar_4cfef_32
        · skip
          have h_12 := s_eq (show (115 : Int32).toInt = 115 from rfl) (rfl : z_2.toInt = _) c_9
          refine lv_iload hx hb dJ1_indexOfChar_4cfef_22 (lv_at hl 0 rfl) ?_
          have hlv_13 : (3 : Int32).toInt = 3 := rfl
          exact sj_zret hx hb hr hlocks rfl hS () ⟨⟨by decide, by decide⟩, (by have h9 : (3 : Int32).toInt = 3 := rfl; omega)⟩ hH (sj_Knil hK) (Nat.le_of_ble_eq_true rfl) (Nat.le_of_ble_eq_true rfl) dJ1_indexOfChar_4cfef_24
      · skip
        have h_14 := s_eq (show (119 : Int32).toInt = 119 from rfl) (rfl : z_2.toInt = _) c_7
        refine lv_iload hx hb dJ1_indexOfChar_4cfef_22 (lv_at hl 0 rfl) ?_
        have hlv_15 : (2 : Int32).toInt = 2 := rfl
        exact sj_zret hx hb hr hlocks rfl hS () ⟨⟨by decide, by decide⟩, (by have h9 : (2 : Int32).toInt = 2 := rfl; omega)⟩ hH (sj_Knil hK) (Nat.le_of_ble_eq_true rfl) (Nat.le_of_ble_eq_true rfl) dJ1_indexOfChar_4cfef_24
    · skip
      have h_16 := s_eq (show (100 : Int32).toInt = 100 from rfl) (rfl : z_2.toInt = _) c_5
      refine lv_iload hx hb dJ1_indexOfChar_4cfef_22 (lv_at hl 0 rfl) ?_
      have hlv_17 : (1 : Int32).toInt = 1 := rfl
      exact sj_zret hx hb hr hlocks rfl hS () ⟨⟨by decide, by decide⟩, (by have h9 : (1 : Int32).toInt = 1 := rfl; omega)⟩ hH (sj_Knil hK) (Nat.le_of_ble_eq_true rfl) (Nat.le_of_ble_eq_true rfl) dJ1_indexOfChar_4cfef_24
  · skip
    have h_18 := s_eq (show (105 : Int32).toInt = 105 from rfl) (rfl : z_2.toInt = _) c_3
    refine lv_iload hx hb dJ1_indexOfChar_4cfef_22 (lv_at hl 0 rfl) ?_
    have hlv_19 : (0 : Int32).toInt = 0 := rfl
    exact sj_zret hx hb hr hlocks rfl hS () ⟨⟨by decide, by decide⟩, (by have h9 : (0 : Int32).toInt = 0 := rfl; omega)⟩ hH (sj_Knil hK) (Nat.le_of_ble_eq_true rfl) (Nat.le_of_ble_eq_true rfl) dJ1_indexOfChar_4cfef_24
set_option maxHeartbeats 2000000 in
set_option maxRecDepth 100000 in
theorem k_indexOfL_0 (l : Launch) (D : va_G) (g : Nat → Nat) (ka : Nat → ClassId) (ad : Nat → Nat) (i : Nat → Nat → Int32) (r : Nat → Nat → Nat) (L : Nat → Nat → Int64) (d : Nat → Nat → UInt64) (x : Int32) (hO : OkI i) (hR : RS r) (sz : Nat)  : Met l yJ1_indexOf_4cfef wsJ1_indexOf_4cfef ({ frames := 1, cells := 0, slots := 0, locals := 30 }) (va_Pc [.ref (ad (5 + 0)), .int x, .int 0, .int 4] (sj_B D (hwc g ka i r L d) (hT ka) sz (gx ad (va_A (hwc g ka i r L d) sz)))) (sj_Qi (S := Unit) D (fun v u => ((-1 : Int) ≤ v.toInt ∧ v.toInt ≤ 4) ∧ ((x.toInt = 105 ∧ v.toInt = 0) ∨ (x.toInt = 100 ∧ v.toInt = 1) ∨ (x.toInt = 119 ∧ v.toInt = 2) ∨ (x.toInt = 115 ∧ v.toInt = 3) ∨ (x.toInt ≠ 105 ∧ x.toInt ≠ 100 ∧ x.toInt ≠ 119 ∧ x.toInt ≠ 115 ∧ v.toInt = -1))) (fun _ => hwc g ka i r L d) (fun _ => []) (va_A (hwc g ka i r L d) sz)) 0 0 (va_A (hwc g ka i r L d) sz) := by
  refine x_met (Ex := gx ad) (cc := cJ1_indexOf_4cfef) (maxL := 4) (ret := (some .int)) (by decide) rfl (Nat.le_of_ble_eq_true rfl) ?_
  intro p e s m below meth c A ls hx hb hr hml hts hown hlocks hA hS hH hK hE hl
  have hown : s.vm.findClass RJ1 = some m.cls := hown
  have wd0 := hts (.methodLink RJ1 92 Lib.Math.max.name) (List.mem_cons_of_mem _ lm0)
  have wd1 := hts (.static Lib.Math.max.name) (List.mem_cons_of_mem _ lm1)
  have wd2 := hts (.initialized "java/lang/Math") (List.mem_cons_of_mem _ lm2)
  have wd3 := hts (.code Lib.Math.max.name Lib.Math.max.code 2 (some .int)) (List.mem_cons_of_mem _ lm3)
  have wd4 := hts (.methodLink RJ1 38 Lib.Math.min.name) (List.mem_cons_of_mem _ lm4)
  have wd5 := hts (.static Lib.Math.min.name) (List.mem_cons_of_mem _ lm5)
  have wd6 := hts (.code Lib.Math.min.name Lib.Math.min.code 2 (some .int)) (List.mem_cons_of_mem _ lm6)
  have hl : lv_has ls 4 [(0, .ref (ad (5 + 0))), (1, .int x), (2, .int 0), (3, .int 4)] := hl
  have hK : va_K D vwCl (hT ka) s := hK
  have hg_1 := s_rng x
  refine lv_iload_n hx hb dJ1_indexOf_4cfef_0 rfl (lv_at hl 1 rfl) ?_
  refine x_calli (va_runS (As := [.int x]) (rest := []) ⟨hx, hb, hml, hown, hts⟩ (k_canEncode l D g ka ad i r L d x hO hR s.heap.size ) (cwS 1 hts gJ1_indexOf_4cfef_J1_canEncode_9a6ad rfl rfl rfl (by decide +kernel) ⟨(Nat.le_of_ble_eq_true rfl), (Nat.le_of_ble_eq_true rfl)⟩) (x_preS hH hK gxb (gxw hE hS (x_F hH hS hA))) rfl rfl hl.1 rfl (lv_room (Nat.le_of_ble_eq_true rfl)) dJ1_indexOf_4cfef_1 ⟨(Nat.le_of_ble_eq_true rfl), (Nat.le_of_ble_eq_true rfl)⟩) hH hS hA rfl rfl (fun r_2 _ H locs hw_3 hH hS => ?_)
  obtain ⟨hr_5, he_6⟩ := hw_3
  have hr_5 : (0 : Int) ≤ r_2.toInt ∧ r_2.toInt ≤ 1 := hr_5
  refine lv_if_ne (tgt := 9) hx hb dJ1_indexOf_4cfef_4 (by decide) (fun c_7 => ?_) (fun c_7 => ?_)
  · skip
    have h_8 := s_ne (rfl : r_2.toInt = _) (show (0 : Int32).toInt = 0 from rfl) c_7
    refine lv_iload_n hx hb dJ1_indexOf_4cfef_9 rfl (lv_at hl 2 rfl) ?_
    refine lv_iconst (v := 0) hx hb dJ1_indexOf_4cfef_10 (by decide) ?_
    refine va_mmax hx hb (hml.trans hl.1.symm) hown wd0 wd1 wd2 wd3 (Nat.le_of_ble_eq_true rfl) (Nat.le_of_ble_eq_true rfl) (Nat.le_of_ble_eq_true rfl) (Nat.le_of_ble_eq_true rfl) dJ1_indexOf_4cfef_11 ?_
    refine sj_i (y := 0) (by decide) ?_
    refine lv_istore_n (lv' := [(2, .int 0), (0, .ref (ad (5 + 0))), (1, .int x), (3, .int 4)]) hx hb dJ1_indexOf_4cfef_14 rfl hl (by decide) rfl (fun ls hl => ?_)
    refine lv_iload_n hx hb dJ1_indexOf_4cfef_15 rfl (lv_at hl 3 rfl) ?_
    refine lv_aload_n hx hb dJ1_indexOf_4cfef_16 rfl (lv_at hl 1 rfl) ?_
    refine va_tlen (v := 4) hx hb (hE.1.1.1 0 (by decide)).2.2.2 hS rfl dJ1_indexOf_4cfef_17 ?_
    refine va_mmin hx hb (hml.trans hl.1.symm) hown wd4 wd5 wd2 wd6 (Nat.le_of_ble_eq_true rfl) (Nat.le_of_ble_eq_true rfl) (Nat.le_of_ble_eq_true rfl) (Nat.le_of_ble_eq_true rfl) dJ1_indexOf_4cfef_18 ?_
    refine sj_i (y := 4) (by decide) ?_
    refine lv_istore_n (lv' := [(3, .int 4), (2, .int 0), (0, .ref (ad (5 + 0))), (1, .int x)]) hx hb dJ1_indexOf_4cfef_21 rfl hl (by decide) rfl (fun ls hl => ?_)
    refine lv_iload_n hx hb dJ1_indexOf_4cfef_22 rfl (lv_at hl 1 rfl) ?_
    refine lv_iload_n hx hb dJ1_indexOf_4cfef_23 rfl (lv_at hl 0 rfl) ?_
    refine lv_icmp_lt (tgt := 29) hx hb dJ1_indexOf_4cfef_24 (by decide) (fun _ => ?_) (fun h => absurd (by decide) h)
    refine lv_aload_n hx hb dJ1_indexOf_4cfef_29 rfl (lv_at hl 2 rfl) ?_
    refine lv_iload_n hx hb dJ1_indexOf_4cfef_30 rfl (lv_at hl 3 rfl) ?_
    refine lv_iload_n hx hb dJ1_indexOf_4cfef_31 rfl (lv_at hl 1 rfl) ?_
    refine lv_iload_n hx hb dJ1_indexOf_4cfef_32 rfl (lv_at hl 0 rfl) ?_
    have hl_9 : (0 : Int32).toInt = 0 := rfl
    have hl_10 : (4 : Int32).toInt = 4 := rfl
    refine x_calli (va_runS (As := [.ref (ad (5 + 0)), .int x, .int 0, .int 4]) (rest := []) ⟨hx, hb, hml, hown, hts⟩ (k_indexOfChar_0 l D g ka ad i r L d x hO hR H.size (by first | omega | decide) (by first | omega | decide)) (cwS 4 hts gJ1_indexOf_4cfef_J1_indexOfChar_4cfef rfl rfl rfl (by decide +kernel) ⟨(Nat.le_of_ble_eq_true rfl), (Nat.le_of_ble_eq_true rfl)⟩) (x_preS hH hK gxb (gxw hE hS (x_F hH hS hA))) rfl rfl hl.1 rfl (lv_room (Nat.le_of_ble_eq_true rfl)) dJ1_indexOf_4cfef_33 ⟨(Nat.le_of_ble_eq_true rfl), (Nat.le_of_ble_eq_true rfl)⟩) hH hS hA rfl rfl (fun r_11 _ H locs hw_12 hH hS => ?_)
    obtain ⟨hr_14, he_15⟩ := hw_12
    have hr_14 : (-1 : Int) ≤ r_11.toInt ∧ r_11.toInt ≤ 4 := hr_14
    exact sj_zret hx hb hr hlocks rfl hS () ⟨⟨by omega, by omega⟩, (by omega)⟩ hH (sj_Knil hK) (Nat.le_of_ble_eq_true rfl) (Nat.le_of_ble_eq_true rfl) dJ1_indexOf_4cfef_36
  · skip
    have h_16 := s_eq (rfl : r_2.toInt = _) (show (0 : Int32).toInt = 0 from rfl) c_7
    refine lv_iconst (v := (-1)) hx hb dJ1_indexOf_4cfef_7 (by decide) ?_
    have hlv_17 : ((-1) : Int32).toInt = -1 := rfl
    exact sj_zret hx hb hr hlocks rfl hS () ⟨⟨by decide, by decide⟩, (by have h9 : ((-1) : Int32).toInt = -1 := rfl; omega)⟩ hH (sj_Knil hK) (Nat.le_of_ble_eq_true rfl) (Nat.le_of_ble_eq_true rfl) dJ1_indexOf_4cfef_8
set_option maxHeartbeats 2000000 in
set_option maxRecDepth 100000 in
theorem k_length_0 (l : Launch) (D : va_G) (g : Nat → Nat) (ka : Nat → ClassId) (ad : Nat → Nat) (i : Nat → Nat → Int32) (r : Nat → Nat → Nat) (L : Nat → Nat → Int64) (d : Nat → Nat → UInt64)  (hO : OkI i) (hR : RS r) (sz : Nat)  : Met l yJ0_length_8abf5 wsJ0_length_8abf5 ({ frames := 1, cells := 0, slots := 0, locals := 20 }) (va_Pc [.ref (ad 0)] (sj_B D (hwc g ka i r L d) (hT ka) sz (gx ad (va_A (hwc g ka i r L d) sz)))) (sj_Qi (S := Unit) D (fun v u => ((4 : Int) ≤ v.toInt ∧ v.toInt ≤ 4)) (fun _ => hwc g ka i r L d) (fun _ => []) (va_A (hwc g ka i r L d) sz)) 0 0 (va_A (hwc g ka i r L d) sz) := by
  refine x_met (Ex := gx ad) (cc := cJ0_length_8abf5) (maxL := 1) (ret := (some .int)) (by decide) rfl (Nat.le_of_ble_eq_true rfl) ?_
  intro p e s m below meth c A ls hx hb hr hml hts hown hlocks hA hS hH hK hE hl
  have hown : s.vm.findClass RJ0 = some m.cls := hown
  have wd0 := hts (.fieldLink RJ0 9 "java/lang/String" "value" "[B") (List.mem_cons_of_mem _ lm0)
  have hl : lv_has ls 1 [(0, .ref (ad 0))] := hl
  have hK : va_K D vwCl (hT ka) s := hK
  refine lv_aload_n hx hb dJ0_length_8abf5_0 rfl (lv_at hl 0 rfl) ?_
  refine vk_getf hx hb (hE.1.1.1 0 (by decide)).2.2.1 hS hown wd0 (fun _ h9 => h9) dJ0_length_8abf5_1 ?_
  refine sj_v (y := .ref (ad (5 + 0))) rfl ?_
  refine va_tlen (v := 4) hx hb (hE.1.1.1 0 (by decide)).2.2.2 hS rfl dJ0_length_8abf5_4 ?_
  refine lv_aload_n hx hb dJ0_length_8abf5_5 rfl (lv_at hl 0 rfl) ?_
  refine x_calli (va_runV (As := []) (rest := [.int 4]) ⟨hx, hb, hml, hown, hts⟩ (k_coder_0 l D g ka ad i r L d  hO hR s.heap.size ) (cwV 0 hts gJ0_length_8abf5_J0_coder_7d493 rfl rfl rfl (by decide +kernel) ⟨(Nat.le_of_ble_eq_true rfl), (Nat.le_of_ble_eq_true rfl)⟩) (x_preS2 (n := 0) hE.1.1 (by decide) hH hK hS gxb (gxw hE hS (x_F hH hS hA))) rfl rfl hl.1 rfl (lv_room (Nat.le_of_ble_eq_true rfl)) dJ0_length_8abf5_6 ⟨(Nat.le_of_ble_eq_true rfl), (Nat.le_of_ble_eq_true rfl)⟩) hH hS hA rfl rfl (fun r_1 _ H locs hw_2 hH hS => ?_)
  have hr_4 := hw_2
  have hr_4 : (0 : Int) ≤ r_1.toInt ∧ r_1.toInt ≤ 0 := hr_4
  obtain rfl : r_1 = 0 := p_eq rfl (show (0 : Int32).toInt = 0 from rfl) (by omega)
  refine lv_ishr hx hb dJ0_length_8abf5_9 ?_
  refine sj_i (y := 4) (by decide) ?_
  exact sj_zret hx hb hr hlocks rfl hS () ⟨by decide, by decide⟩ hH (sj_Knil hK) (Nat.le_of_ble_eq_true rfl) (Nat.le_of_ble_eq_true rfl) dJ0_length_8abf5_10
set_option maxHeartbeats 2000000 in
set_option maxRecDepth 100000 in
theorem k_indexOf2_0 (l : Launch) (D : va_G) (g : Nat → Nat) (ka : Nat → ClassId) (ad : Nat → Nat) (i : Nat → Nat → Int32) (r : Nat → Nat → Nat) (L : Nat → Nat → Int64) (d : Nat → Nat → UInt64) (x : Int32) (hO : OkI i) (hR : RS r) (sz : Nat)  : Met l yJ0_indexOf_7cf53 wsJ0_indexOf_7cf53 ({ frames := 2, cells := 0, slots := 0, locals := 53 }) (va_Pc [.ref (ad 0), .int x, .int 0] (sj_B D (hwc g ka i r L d) (hT ka) sz (gx ad (va_A (hwc g ka i r L d) sz)))) (sj_Qi (S := Unit) D (fun v u => ((-1 : Int) ≤ v.toInt ∧ v.toInt ≤ 4) ∧ ((x.toInt = 105 ∧ v.toInt = 0) ∨ (x.toInt = 100 ∧ v.toInt = 1) ∨ (x.toInt = 119 ∧ v.toInt = 2) ∨ (x.toInt = 115 ∧ v.toInt = 3) ∨ (x.toInt ≠ 105 ∧ x.toInt ≠ 100 ∧ x.toInt ≠ 119 ∧ x.toInt ≠ 115 ∧ v.toInt = -1))) (fun _ => hwc g ka i r L d) (fun _ => []) (va_A (hwc g ka i r L d) sz)) 0 0 (va_A (hwc g ka i r L d) sz) := by
  refine x_met (Ex := gx ad) (cc := cJ0_indexOf_7cf53) (maxL := 3) (ret := (some .int)) (by decide) rfl (Nat.le_of_ble_eq_true rfl) ?_
  intro p e s m below meth c A ls hx hb hr hml hts hown hlocks hA hS hH hK hE hl
  have hown : s.vm.findClass RJ0 = some m.cls := hown
  have wd0 := hts (.fieldLink RJ0 9 "java/lang/String" "value" "[B") (List.mem_cons_of_mem _ (List.mem_append_left _ lm0))
  have hl : lv_has ls 3 [(0, .ref (ad 0)), (1, .int x), (2, .int 0)] := hl
  have hK : va_K D vwCl (hT ka) s := hK
  have hg_1 := s_rng x
  refine lv_aload_n hx hb dJ0_indexOf_7cf53_0 rfl (lv_at hl 0 rfl) ?_
  refine x_calli (va_runV (As := []) (rest := []) ⟨hx, hb, hml, hown, hts⟩ (k_isLatin1_0 l D g ka ad i r L d  hO hR s.heap.size ) (cwV 0 hts gJ0_indexOf_7cf53_J0_isLatin1_aae02 rfl rfl rfl (by decide +kernel) ⟨(Nat.le_of_ble_eq_true rfl), (Nat.le_of_ble_eq_true rfl)⟩) (x_preS2 (n := 0) hE.1.1 (by decide) hH hK hS gxb (gxw hE hS (x_F hH hS hA))) rfl rfl hl.1 rfl (lv_room (Nat.le_of_ble_eq_true rfl)) dJ0_indexOf_7cf53_1 ⟨(Nat.le_of_ble_eq_true rfl), (Nat.le_of_ble_eq_true rfl)⟩) hH hS hA rfl rfl (fun r_2 _ H locs hw_3 hH hS => ?_)
  have hr_5 := hw_3
  have hr_5 : (1 : Int) ≤ r_2.toInt ∧ r_2.toInt ≤ 1 := hr_5
  obtain rfl : r_2 = 1 := p_eq rfl (show (1 : Int32).toInt = 1 from rfl) (by omega)
  refine lv_if_eq (tgt := 23) hx hb dJ0_indexOf_7cf53_4 (by decide) (fun h => absurd h (by decide)) (fun _ => ?_)
  refine lv_aload_n hx hb dJ0_indexOf_7cf53_7 rfl (lv_at hl 0 rfl) ?_
  refine vk_getf hx hb (hE.1.1.1 0 (by decide)).2.2.1 hS hown wd0 (fun _ h9 => h9) dJ0_indexOf_7cf53_8 ?_
  refine sj_v (y := .ref (ad (5 + 0))) rfl ?_
  refine lv_iload_n hx hb dJ0_indexOf_7cf53_11 rfl (lv_at hl 1 rfl) ?_
  refine lv_iload_n hx hb dJ0_indexOf_7cf53_12 rfl (lv_at hl 2 rfl) ?_
  refine lv_aload_n hx hb dJ0_indexOf_7cf53_13 rfl (lv_at hl 0 rfl) ?_
  refine x_calli (va_runV (As := []) (rest := [.int 0, .int x, .ref (ad (5 + 0))]) ⟨hx, hb, hml, hown, hts⟩ (k_length_0 l D g ka ad i r L d  hO hR H.size ) (cwV 0 hts gJ0_indexOf_7cf53_J0_length_8abf5 rfl rfl rfl (by decide +kernel) ⟨(Nat.le_of_ble_eq_true rfl), (Nat.le_of_ble_eq_true rfl)⟩) (x_preS2 (n := 0) hE.1.1 (by decide) hH hK hS gxb (gxw hE hS (x_F hH hS hA))) rfl rfl hl.1 rfl (lv_room (Nat.le_of_ble_eq_true rfl)) dJ0_indexOf_7cf53_14 ⟨(Nat.le_of_ble_eq_true rfl), (Nat.le_of_ble_eq_true rfl)⟩) hH hS hA rfl rfl (fun r_6 _ H locs hw_7 hH hS => ?_)
  have hr_9 := hw_7
  have hr_9 : (4 : Int) ≤ r_6.toInt ∧ r_6.toInt ≤ 4 := hr_9
  obtain rfl : r_6 = 4 := p_eq rfl (show (4 : Int32).toInt = 4 from rfl) (by omega)
  have hl_10 : (0 : Int32).toInt = 0 := rfl
  have hl_11 : (4 : Int32).toInt = 4 := rfl
  refine x_calli (va_runS (As := [.ref (ad (5 + 0)), .int x, .int 0, .int 4]) (rest := []) ⟨hx, hb, hml, hown, hts⟩ (k_indexOfL_0 l D g ka ad i r L d x hO hR H.size ) (va_cwS 4 hts gJ0_indexOf_7cf53_J1_indexOf_4cfef rfl rfl rfl (by decide +kernel) ⟨(Nat.le_of_ble_eq_true rfl), (Nat.le_of_ble_eq_true rfl)⟩) (x_preS hH hK gxb (gxw hE hS (x_F hH hS hA))) rfl rfl hl.1 rfl (lv_room (Nat.le_of_ble_eq_true rfl)) dJ0_indexOf_7cf53_17 ⟨(Nat.le_of_ble_eq_true rfl), (Nat.le_of_ble_eq_true rfl)⟩) hH hS hA rfl rfl (fun r_12 _ H locs hw_13 hH hS => ?_)
  obtain ⟨hr_15, he_16⟩ := hw_13
  have hr_15 : (-1 : Int) ≤ r_12.toInt ∧ r_12.toInt ≤ 4 := hr_15
  refine lv_goto (tgt := 36) hx hb dJ0_indexOf_7cf53_20 (by decide) ?_
  exact sj_zret hx hb hr hlocks rfl hS () ⟨⟨by omega, by omega⟩, (by omega)⟩ hH (sj_Knil hK) (Nat.le_of_ble_eq_true rfl) (Nat.le_of_ble_eq_true rfl) dJ0_indexOf_7cf53_36
set_option maxHeartbeats 2000000 in
set_option maxRecDepth 100000 in
theorem k_indexOf_0 (l : Launch) (D : va_G) (g : Nat → Nat) (ka : Nat → ClassId) (ad : Nat → Nat) (i : Nat → Nat → Int32) (r : Nat → Nat → Nat) (L : Nat → Nat → Int64) (d : Nat → Nat → UInt64) (x : Int32) (hO : OkI i) (hR : RS r) (sz : Nat)  : Met l yJ0_indexOf_0f7a4 wsJ0_indexOf_0f7a4 ({ frames := 3, cells := 0, slots := 0, locals := 75 }) (va_Pc [.ref (ad 0), .int x] (sj_B D (hwc g ka i r L d) (hT ka) sz (gx ad (va_A (hwc g ka i r L d) sz)))) (sj_Qi (S := Unit) D (fun v u => ((-1 : Int) ≤ v.toInt ∧ v.toInt ≤ 4) ∧ ((x.toInt = 105 ∧ v.toInt = 0) ∨ (x.toInt = 100 ∧ v.toInt = 1) ∨ (x.toInt = 119 ∧ v.toInt = 2) ∨ (x.toInt = 115 ∧ v.toInt = 3) ∨ (x.toInt ≠ 105 ∧ x.toInt ≠ 100 ∧ x.toInt ≠ 119 ∧ x.toInt ≠ 115 ∧ v.toInt = -1))) (fun _ => hwc g ka i r L d) (fun _ => []) (va_A (hwc g ka i r L d) sz)) 0 0 (va_A (hwc g ka i r L d) sz) := by
  refine x_met (Ex := gx ad) (cc := cJ0_indexOf_0f7a4) (maxL := 2) (ret := (some .int)) (by decide) rfl (Nat.le_of_ble_eq_true rfl) ?_
  intro p e s m below meth c A ls hx hb hr hml hts hown hlocks hA hS hH hK hE hl
  have hown : s.vm.findClass RJ0 = some m.cls := hown
  have hl : lv_has ls 2 [(0, .ref (ad 0)), (1, .int x)] := hl
  have hK : va_K D vwCl (hT ka) s := hK
  have hg_1 := s_rng x
  refine lv_aload_n hx hb dJ0_indexOf_0f7a4_0 rfl (lv_at hl 0 rfl) ?_
  refine lv_iload_n hx hb dJ0_indexOf_0f7a4_1 rfl (lv_at hl 1 rfl) ?_
  refine lv_iconst (v := 0) hx hb dJ0_indexOf_0f7a4_2 (by decide) ?_
  have hl_2 : (0 : Int32).toInt = 0 := rfl
  refine x_calli (va_runV (As := [.int x, .int 0]) (rest := []) ⟨hx, hb, hml, hown, hts⟩ (k_indexOf2_0 l D g ka ad i r L d x hO hR s.heap.size ) (cwV 2 hts gJ0_indexOf_0f7a4_J0_indexOf_7cf53 rfl rfl rfl (by decide +kernel) ⟨(Nat.le_of_ble_eq_true rfl), (Nat.le_of_ble_eq_true rfl)⟩) (x_preS2 (n := 0) hE.1.1 (by decide) hH hK hS gxb (gxw hE hS (x_F hH hS hA))) rfl rfl hl.1 rfl (lv_room (Nat.le_of_ble_eq_true rfl)) dJ0_indexOf_0f7a4_3 ⟨(Nat.le_of_ble_eq_true rfl), (Nat.le_of_ble_eq_true rfl)⟩) hH hS hA rfl rfl (fun r_3 _ H locs hw_4 hH hS => ?_)
  obtain ⟨hr_6, he_7⟩ := hw_4
  have hr_6 : (-1 : Int) ≤ r_3.toInt ∧ r_3.toInt ≤ 4 := hr_6
  exact sj_zret hx hb hr hlocks rfl hS () ⟨⟨by omega, by omega⟩, (by omega)⟩ hH (sj_Knil hK) (Nat.le_of_ble_eq_true rfl) (Nat.le_of_ble_eq_true rfl) dJ0_indexOf_0f7a4_6
set_option maxHeartbeats 2000000 in
set_option maxRecDepth 100000 in
theorem k_indexOfChar_1 (l : Launch) (D : va_G) (g : Nat → Nat) (ka : Nat → ClassId) (ad : Nat → Nat) (i : Nat → Nat → Int32) (r : Nat → Nat → Nat) (L : Nat → Nat → Int64) (d : Nat → Nat → UInt64) (x : Int32) (hO : OkI i) (hR : RS r) (sz : Nat) (h0 : 0 ≤ x.toInt) (h1 : x.toInt ≤ 255) : Met l yJ1_indexOfChar_4cfef wsJ1_indexOfChar_4cfef ({ frames := 0, cells := 0, slots := 0, locals := 0 }) (va_Pc [.ref (ad (5 + 1)), .int x, .int 0, .int 5] (sj_B D (hwc g ka i r L d) (hT ka) sz (gx ad (va_A (hwc g ka i r L d) sz)))) (sj_Qi (S := Unit) D (fun v u => ((-1 : Int) ≤ v.toInt ∧ v.toInt ≤ 4) ∧ ((x.toInt = 80 ∧ v.toInt = 0) ∨ (x.toInt = 81 ∧ v.toInt = 1) ∨ (x.toInt = 72 ∧ v.toInt = 2) ∨ (x.toInt = 67 ∧ v.toInt = 3) ∨ (x.toInt = 88 ∧ v.toInt = 4) ∨ (x.toInt ≠ 80 ∧ x.toInt ≠ 81 ∧ x.toInt ≠ 72 ∧ x.toInt ≠ 67 ∧ x.toInt ≠ 88 ∧ v.toInt = -1))) (fun _ => hwc g ka i r L d) (fun _ => []) (va_A (hwc g ka i r L d) sz)) 0 0 (va_A (hwc g ka i r L d) sz) := by
  refine x_met (Ex := gx ad) (cc := cJ1_indexOfChar_4cfef) (maxL := 6) (ret := (some .int)) (by decide) rfl (Nat.le_of_ble_eq_true rfl) ?_
  intro p e s m below meth c A ls hx hb hr hml hts hown hlocks hA hS hH hK hE hl
  have hown : s.vm.findClass RJ1 = some m.cls := hown
  have hl : lv_has ls 6 [(0, .ref (ad (5 + 1))), (1, .int x), (2, .int 0), (3, .int 5)] := hl
  have hK : va_K D vwCl (hT ka) s := hK
  have hg_1 := s_rng x
  refine lv_iload_n hx hb dJ1_indexOfChar_4cfef_0 rfl (lv_at hl 1 rfl) ?_
  refine lv_i2b hx hb dJ1_indexOfChar_4cfef_1 rfl ?_
  refine lv_topi (fun z_2 ez_2 => ?_)
  have hz_2 := s_i2b ez_2 (by omega) (by omega)
  refine lv_istore (lv' := [(4, .int z_2), (0, .ref (ad (5 + 1))), (1, .int x), (2, .int 0), (3, .int 5)]) hx hb dJ1_indexOfChar_4cfef_2 hl (by decide) rfl (fun ls hl => ?_)
  refine lv_iload_n hx hb dJ1_indexOfChar_4cfef_4 rfl (lv_at hl 3 rfl) ?_
  refine lv_istore (lv' := [(5, .int 0), (4, .int z_2), (0, .ref (ad (5 + 1))), (1, .int x), (2, .int 0), (3, .int 5)]) hx hb dJ1_indexOfChar_4cfef_5 hl (by decide) rfl (fun ls hl => ?_)
  refine lv_iload hx hb dJ1_indexOfChar_4cfef_7 (lv_at hl 0 rfl) ?_
  refine lv_iload_n hx hb dJ1_indexOfChar_4cfef_9 rfl (lv_at hl 5 rfl) ?_
  refine lv_icmp_ge (tgt := 31) hx hb dJ1_indexOfChar_4cfef_10 (by decide) (fun h => absurd h (by decide)) (fun _ => ?_)
  refine lv_aload_n hx hb dJ1_indexOfChar_4cfef_13 rfl (lv_at hl 2 rfl) ?_
  refine lv_iload hx hb dJ1_indexOfChar_4cfef_14 (lv_at hl 0 rfl) ?_
  refine va_tb (v := .int 80) hx hb (hE.1.1.1 1 (by decide)).2.2.2 hS (sj_vin (by decide) (by decide)) rfl dJ1_indexOfChar_4cfef_16 ?_
  refine lv_iload hx hb dJ1_indexOfChar_4cfef_17 (lv_at hl 1 rfl) ?_
  refine lv_icmp_ne (tgt := 25) hx hb dJ1_indexOfChar_4cfef_19 (by decide) (fun c_3 => ?_) (fun c_3 => ?_)
  · skip
    have h_4 := s_ne (show (80 : Int32).toInt = 80 from rfl) (rfl : z_2.toInt = _) c_3
    refine lv_iinc (v := 1) (lv' := [(5, .int 1), (4, .int z_2), (0, .ref (ad (5 + 1))), (1, .int x), (2, .int 0), (3, .int 5)]) hx hb dJ1_indexOfChar_4cfef_25 hl (k := 0) rfl (by decide) (by decide) rfl (fun ls hl => ?_)
    refine lv_goto (tgt := 7) hx hb dJ1_indexOfChar_4cfef_28 (by decide) ?_
    refine lv_iload hx hb dJ1_indexOfChar_4cfef_7 (lv_at hl 0 rfl) ?_
    refine lv_iload_n hx hb dJ1_indexOfChar_4cfef_9 rfl (lv_at hl 5 rfl) ?_
    refine lv_icmp_ge (tgt := 31) hx hb dJ1_indexOfChar_4cfef_10 (by decide) (fun h => absurd h (by decide)) (fun _ => ?_)
    refine lv_aload_n hx hb dJ1_indexOfChar_4cfef_13 rfl (lv_at hl 2 rfl) ?_
    refine lv_iload hx hb dJ1_indexOfChar_4cfef_14 (lv_at hl 0 rfl) ?_
    refine va_tb (v := .int 81) hx hb (hE.1.1.1 1 (by decide)).2.2.2 hS (sj_vin (by decide) (by decide)) rfl dJ1_indexOfChar_4cfef_16 ?_
    refine lv_iload hx hb dJ1_indexOfChar_4cfef_17 (lv_at hl 1 rfl) ?_
    refine lv_icmp_ne (tgt := 25) hx hb dJ1_indexOfChar_4cfef_19 (by decide) (fun c_5 => ?_) (fun c_5 => ?_)
    · skip
      have h_6 := s_ne (show (81 : Int32).toInt = 81 from rfl) (rfl : z_2.toInt = _) c_5
      refine lv_iinc (v := 2) (lv' := [(5, .int 2), (4, .int z_2), (0, .ref (ad (5 + 1))), (1, .int x), (2, .int 0), (3, .int 5)]) hx hb dJ1_indexOfChar_4cfef_25 hl (k := 0) rfl (by decide) (by decide) rfl (fun ls hl => ?_)
      refine lv_goto (tgt := 7) hx hb dJ1_indexOfChar_4cfef_28 (by decide) ?_
      refine lv_iload hx hb dJ1_indexOfChar_4cfef_7 (lv_at hl 0 rfl) ?_
      refine lv_iload_n hx hb dJ1_indexOfChar_4cfef_9 rfl (lv_at hl 5 rfl) ?_
      refine lv_icmp_ge (tgt := 31) hx hb dJ1_indexOfChar_4cfef_10 (by decide) (fun h => absurd h (by decide)) (fun _ => ?_)
      refine lv_aload_n hx hb dJ1_indexOfChar_4cfef_13 rfl (lv_at hl 2 rfl) ?_
      refine lv_iload hx hb dJ1_indexOfChar_4cfef_14 (lv_at hl 0 rfl) ?_
      refine va_tb (v := .int 72) hx hb (hE.1.1.1 1 (by decide)).2.2.2 hS (sj_vin (by decide) (by decide)) rfl dJ1_indexOfChar_4cfef_16 ?_
      refine lv_iload hx hb dJ1_indexOfChar_4cfef_17 (lv_at hl 1 rfl) ?_
      refine lv_icmp_ne (tgt := 25) hx hb dJ1_indexOfChar_4cfef_19 (by decide) (fun c_7 => ?_) (fun c_7 => ?_)
      · skip
        have h_8 := s_ne (show (72 : Int32).toInt = 72 from rfl) (rfl : z_2.toInt = _) c_7
        refine lv_iinc (v := 3) (lv' := [(5, .int 3), (4, .int z_2), (0, .ref (ad (5 + 1))), (1, .int x), (2, .int 0), (3, .int 5)]) hx hb dJ1_indexOfChar_4cfef_25 hl (k := 0) rfl (by decide) (by decide) rfl (fun ls hl => ?_)
        refine lv_goto (tgt := 7) hx hb dJ1_indexOfChar_4cfef_28 (by decide) ?_
        refine lv_iload hx hb dJ1_indexOfChar_4cfef_7 (lv_at hl 0 rfl) ?_
        refine lv_iload_n hx hb dJ1_indexOfChar_4cfef_9 rfl (lv_at hl 5 rfl) ?_
        refine lv_icmp_ge (tgt := 31) hx hb dJ1_indexOfChar_4cfef_10 (by decide) (fun h => absurd h (by decide)) (fun _ => ?_)
        refine lv_aload_n hx hb dJ1_indexOfChar_4cfef_13 rfl (lv_at hl 2 rfl) ?_
        refine lv_iload hx hb dJ1_indexOfChar_4cfef_14 (lv_at hl 0 rfl) ?_
        refine va_tb (v := .int 67) hx hb (hE.1.1.1 1 (by decide)).2.2.2 hS (sj_vin (by decide) (by decide)) rfl dJ1_indexOfChar_4cfef_16 ?_
        refine lv_iload hx hb dJ1_indexOfChar_4cfef_17 (lv_at hl 1 rfl) ?_
        refine lv_icmp_ne (tgt := 25) hx hb dJ1_indexOfChar_4cfef_19 (by decide) (fun c_9 => ?_) (fun c_9 => ?_)
        · skip
          have h_10 := s_ne (show (67 : Int32).toInt = 67 from rfl) (rfl : z_2.toInt = _) c_9
          refine lv_iinc (v := 4) (lv' := [(5, .int 4), (4, .int z_2), (0, .ref (ad (5 + 1))), (1, .int x), (2, .int 0), (3, .int 5)]) hx hb dJ1_indexOfChar_4cfef_25 hl (k := 0) rfl (by decide) (by decide) rfl (fun ls hl => ?_)
          refine lv_goto (tgt := 7) hx hb dJ1_indexOfChar_4cfef_28 (by decide) ?_
          refine lv_iload hx hb dJ1_indexOfChar_4cfef_7 (lv_at hl 0 rfl) ?_
          refine lv_iload_n hx hb dJ1_indexOfChar_4cfef_9 rfl (lv_at hl 5 rfl) ?_
          refine lv_icmp_ge (tgt := 31) hx hb dJ1_indexOfChar_4cfef_10 (by decide) (fun h => absurd h (by decide)) (fun _ => ?_)
          refine lv_aload_n hx hb dJ1_indexOfChar_4cfef_13 rfl (lv_at hl 2 rfl) ?_
          refine lv_iload hx hb dJ1_indexOfChar_4cfef_14 (lv_at hl 0 rfl) ?_
          refine va_tb (v := .int 88) hx hb (hE.1.1.1 1 (by decide)).2.2.2 hS (sj_vin (by decide) (by decide)) rfl dJ1_indexOfChar_4cfef_16 ?_
          refine lv_iload hx hb dJ1_indexOfChar_4cfef_17 (lv_at hl 1 rfl) ?_
          refine lv_icmp_ne (tgt := 25) hx hb dJ1_indexOfChar_4cfef_19 (by decide) (fun c_11 => ?_) (fun c_11 => ?_)
          · skip
            have h_12 := s_ne (show (88 : Int32).toInt = 88 from rfl) (rfl : z_2.toInt = _) c_11
            refine lv_iinc (v := 5) (lv' := [(5, .int 5), (4, .int z_2), (0, .ref (ad (5 + 1))), (1, .int x), (2, .int 0), (3, .int 5)]) hx hb dJ1_indexOfChar_4cfef_25 hl (k := 0) rfl (by decide) (by decide) rfl (fun ls hl => ?_)
            refine lv_goto (tgt := 7) hx hb dJ1_indexOfChar_4cfef_28 (by decide) ?_
            refine lv_iload hx hb dJ1_indexOfChar_4cfef_7 (lv_at hl 0 rfl) ?_
            refine lv_iload_n hx hb dJ1_indexOfChar_4cfef_9 rfl (lv_at hl 5 rfl) ?_
            refine lv_icmp_ge (tgt := 31) hx hb dJ1_indexOfChar_4cfef_10 (by decide) (fun _ => ?_) (fun h => absurd (by decide) h)
            refine lv_iconst (v := (-1)) hx hb dJ1_indexOfChar_4cfef_31 (by decide) ?_
            have hlv_13 : ((-1) : Int32).toInt = -1 := rfl
            exact sj_zret hx hb hr hlocks rfl hS () ⟨⟨by decide, by decide⟩, (by have h9 : ((-1) : Int32).toInt = -1 := rfl; omega)⟩ hH (sj_Knil hK) (Nat.le_of_ble_eq_true rfl) (Nat.le_of_ble_eq_true rfl) dJ1_indexOfChar_4cfef_32
          · skip
            have h_14 := s_eq (show (88 : Int32).toInt = 88 from rfl) (rfl : z_2.toInt = _) c_11
            refine lv_iload hx hb dJ1_indexOfChar_4cfef_22 (lv_at hl 0 rfl) ?_
            have hlv_15 : (4 : Int32).toInt = 4 := rfl
            exact sj_zret hx hb hr hlocks rfl hS () ⟨⟨by decide, by decide⟩, (by have h9 : (4 : Int32).toInt = 4 := rfl; omega)⟩ hH (sj_Knil hK) (Nat.le_of_ble_eq_true rfl) (Nat.le_of_ble_eq_true rfl) dJ1_indexOfChar_4cfef_24
        · skip
          have h_16 := s_eq (show (67 : Int32).toInt = 67 from rfl) (rfl : z_2.toInt = _) c_9
          refine lv_iload hx hb dJ1_indexOfChar_4cfef_22 (lv_at hl 0 rfl) ?_
          have hlv_17 : (3 : Int32).toInt = 3 := rfl
          exact sj_zret hx hb hr hlocks rfl hS () ⟨⟨by decide, by decide⟩, (by have h9 : (3 : Int32).toInt = 3 := rfl; omega)⟩ hH (sj_Knil hK) (Nat.le_of_ble_eq_true rfl) (Nat.le_of_ble_eq_true rfl) dJ1_indexOfChar_4cfef_24
      · skip
        have h_18 := s_eq (show (72 : Int32).toInt = 72 from rfl) (rfl : z_2.toInt = _) c_7
        refine lv_iload hx hb dJ1_indexOfChar_4cfef_22 (lv_at hl 0 rfl) ?_
        have hlv_19 : (2 : Int32).toInt = 2 := rfl
        exact sj_zret hx hb hr hlocks rfl hS () ⟨⟨by decide, by decide⟩, (by have h9 : (2 : Int32).toInt = 2 := rfl; omega)⟩ hH (sj_Knil hK) (Nat.le_of_ble_eq_true rfl) (Nat.le_of_ble_eq_true rfl) dJ1_indexOfChar_4cfef_24
    · skip
      have h_20 := s_eq (show (81 : Int32).toInt = 81 from rfl) (rfl : z_2.toInt = _) c_5
      refine lv_iload hx hb dJ1_indexOfChar_4cfef_22 (lv_at hl 0 rfl) ?_
      have hlv_21 : (1 : Int32).toInt = 1 := rfl
      exact sj_zret hx hb hr hlocks rfl hS () ⟨⟨by decide, by decide⟩, (by have h9 : (1 : Int32).toInt = 1 := rfl; omega)⟩ hH (sj_Knil hK) (Nat.le_of_ble_eq_true rfl) (Nat.le_of_ble_eq_true rfl) dJ1_indexOfChar_4cfef_24
  · skip
    have h_22 := s_eq (show (80 : Int32).toInt = 80 from rfl) (rfl : z_2.toInt = _) c_3
    refine lv_iload hx hb dJ1_indexOfChar_4cfef_22 (lv_at hl 0 rfl) ?_
    have hlv_23 : (0 : Int32).toInt = 0 := rfl
    exact sj_zret hx hb hr hlocks rfl hS () ⟨⟨by decide, by decide⟩, (by have h9 : (0 : Int32).toInt = 0 := rfl; omega)⟩ hH (sj_Knil hK) (Nat.le_of_ble_eq_true rfl) (Nat.le_of_ble_eq_true rfl) dJ1_indexOfChar_4cfef_24
set_option maxHeartbeats 2000000 in
set_option maxRecDepth 100000 in
theorem k_indexOfL_1 (l : Launch) (D : va_G) (g : Nat → Nat) (ka : Nat → ClassId) (ad : Nat → Nat) (i : Nat → Nat → Int32) (r : Nat → Nat → Nat) (L : Nat → Nat → Int64) (d : Nat → Nat → UInt64) (x : Int32) (hO : OkI i) (hR : RS r) (sz : Nat)  : Met l yJ1_indexOf_4cfef wsJ1_indexOf_4cfef ({ frames := 1, cells := 0, slots := 0, locals := 30 }) (va_Pc [.ref (ad (5 + 1)), .int x, .int 0, .int 5] (sj_B D (hwc g ka i r L d) (hT ka) sz (gx ad (va_A (hwc g ka i r L d) sz)))) (sj_Qi (S := Unit) D (fun v u => ((-1 : Int) ≤ v.toInt ∧ v.toInt ≤ 4) ∧ ((x.toInt = 80 ∧ v.toInt = 0) ∨ (x.toInt = 81 ∧ v.toInt = 1) ∨ (x.toInt = 72 ∧ v.toInt = 2) ∨ (x.toInt = 67 ∧ v.toInt = 3) ∨ (x.toInt = 88 ∧ v.toInt = 4) ∨ (x.toInt ≠ 80 ∧ x.toInt ≠ 81 ∧ x.toInt ≠ 72 ∧ x.toInt ≠ 67 ∧ x.toInt ≠ 88 ∧ v.toInt = -1))) (fun _ => hwc g ka i r L d) (fun _ => []) (va_A (hwc g ka i r L d) sz)) 0 0 (va_A (hwc g ka i r L d) sz) := by
  refine x_met (Ex := gx ad) (cc := cJ1_indexOf_4cfef) (maxL := 4) (ret := (some .int)) (by decide) rfl (Nat.le_of_ble_eq_true rfl) ?_
  intro p e s m below meth c A ls hx hb hr hml hts hown hlocks hA hS hH hK hE hl
  have hown : s.vm.findClass RJ1 = some m.cls := hown
  have wd0 := hts (.methodLink RJ1 92 Lib.Math.max.name) (List.mem_cons_of_mem _ lm0)
  have wd1 := hts (.static Lib.Math.max.name) (List.mem_cons_of_mem _ lm1)
  have wd2 := hts (.initialized "java/lang/Math") (List.mem_cons_of_mem _ lm2)
  have wd3 := hts (.code Lib.Math.max.name Lib.Math.max.code 2 (some .int)) (List.mem_cons_of_mem _ lm3)
  have wd4 := hts (.methodLink RJ1 38 Lib.Math.min.name) (List.mem_cons_of_mem _ lm4)
  have wd5 := hts (.static Lib.Math.min.name) (List.mem_cons_of_mem _ lm5)
  have wd6 := hts (.code Lib.Math.min.name Lib.Math.min.code 2 (some .int)) (List.mem_cons_of_mem _ lm6)
  have hl : lv_has ls 4 [(0, .ref (ad (5 + 1))), (1, .int x), (2, .int 0), (3, .int 5)] := hl
  have hK : va_K D vwCl (hT ka) s := hK
  have hg_1 := s_rng x
  refine lv_iload_n hx hb dJ1_indexOf_4cfef_0 rfl (lv_at hl 1 rfl) ?_
  refine x_calli (va_runS (As := [.int x]) (rest := []) ⟨hx, hb, hml, hown, hts⟩ (k_canEncode l D g ka ad i r L d x hO hR s.heap.size ) (cwS 1 hts gJ1_indexOf_4cfef_J1_canEncode_9a6ad rfl rfl rfl (by decide +kernel) ⟨(Nat.le_of_ble_eq_true rfl), (Nat.le_of_ble_eq_true rfl)⟩) (x_preS hH hK gxb (gxw hE hS (x_F hH hS hA))) rfl rfl hl.1 rfl (lv_room (Nat.le_of_ble_eq_true rfl)) dJ1_indexOf_4cfef_1 ⟨(Nat.le_of_ble_eq_true rfl), (Nat.le_of_ble_eq_true rfl)⟩) hH hS hA rfl rfl (fun r_2 _ H locs hw_3 hH hS => ?_)
  obtain ⟨hr_5, he_6⟩ := hw_3
  have hr_5 : (0 : Int) ≤ r_2.toInt ∧ r_2.toInt ≤ 1 := hr_5
  refine lv_if_ne (tgt := 9) hx hb dJ1_indexOf_4cfef_4 (by decide) (fun c_7 => ?_) (fun c_7 => ?_)
  · skip
    have h_8 := s_ne (rfl : r_2.toInt = _) (show (0 : Int32).toInt = 0 from rfl) c_7
    refine lv_iload_n hx hb dJ1_indexOf_4cfef_9 rfl (lv_at hl 2 rfl) ?_
    refine lv_iconst (v := 0) hx hb dJ1_indexOf_4cfef_10 (by decide) ?_
    refine va_mmax hx hb (hml.trans hl.1.symm) hown wd0 wd1 wd2 wd3 (Nat.le_of_ble_eq_true rfl) (Nat.le_of_ble_eq_true rfl) (Nat.le_of_ble_eq_true rfl) (Nat.le_of_ble_eq_true rfl) dJ1_indexOf_4cfef_11 ?_
    refine sj_i (y := 0) (by decide) ?_
    refine lv_istore_n (lv' := [(2, .int 0), (0, .ref (ad (5 + 1))), (1, .int x), (3, .int 5)]) hx hb dJ1_indexOf_4cfef_14 rfl hl (by decide) rfl (fun ls hl => ?_)
    refine lv_iload_n hx hb dJ1_indexOf_4cfef_15 rfl (lv_at hl 3 rfl) ?_
    refine lv_aload_n hx hb dJ1_indexOf_4cfef_16 rfl (lv_at hl 1 rfl) ?_
    refine va_tlen (v := 5) hx hb (hE.1.1.1 1 (by decide)).2.2.2 hS rfl dJ1_indexOf_4cfef_17 ?_
    refine va_mmin hx hb (hml.trans hl.1.symm) hown wd4 wd5 wd2 wd6 (Nat.le_of_ble_eq_true rfl) (Nat.le_of_ble_eq_true rfl) (Nat.le_of_ble_eq_true rfl) (Nat.le_of_ble_eq_true rfl) dJ1_indexOf_4cfef_18 ?_
    refine sj_i (y := 5) (by decide) ?_
    refine lv_istore_n (lv' := [(3, .int 5), (2, .int 0), (0, .ref (ad (5 + 1))), (1, .int x)]) hx hb dJ1_indexOf_4cfef_21 rfl hl (by decide) rfl (fun ls hl => ?_)
    refine lv_iload_n hx hb dJ1_indexOf_4cfef_22 rfl (lv_at hl 1 rfl) ?_
    refine lv_iload_n hx hb dJ1_indexOf_4cfef_23 rfl (lv_at hl 0 rfl) ?_
    refine lv_icmp_lt (tgt := 29) hx hb dJ1_indexOf_4cfef_24 (by decide) (fun _ => ?_) (fun h => absurd (by decide) h)
    refine lv_aload_n hx hb dJ1_indexOf_4cfef_29 rfl (lv_at hl 2 rfl) ?_
    refine lv_iload_n hx hb dJ1_indexOf_4cfef_30 rfl (lv_at hl 3 rfl) ?_
    refine lv_iload_n hx hb dJ1_indexOf_4cfef_31 rfl (lv_at hl 1 rfl) ?_
    refine lv_iload_n hx hb dJ1_indexOf_4cfef_32 rfl (lv_at hl 0 rfl) ?_
    have hl_9 : (0 : Int32).toInt = 0 := rfl
    have hl_10 : (5 : Int32).toInt = 5 := rfl
    refine x_calli (va_runS (As := [.ref (ad (5 + 1)), .int x, .int 0, .int 5]) (rest := []) ⟨hx, hb, hml, hown, hts⟩ (k_indexOfChar_1 l D g ka ad i r L d x hO hR H.size (by first | omega | decide) (by first | omega | decide)) (cwS 4 hts gJ1_indexOf_4cfef_J1_indexOfChar_4cfef rfl rfl rfl (by decide +kernel) ⟨(Nat.le_of_ble_eq_true rfl), (Nat.le_of_ble_eq_true rfl)⟩) (x_preS hH hK gxb (gxw hE hS (x_F hH hS hA))) rfl rfl hl.1 rfl (lv_room (Nat.le_of_ble_eq_true rfl)) dJ1_indexOf_4cfef_33 ⟨(Nat.le_of_ble_eq_true rfl), (Nat.le_of_ble_eq_true rfl)⟩) hH hS hA rfl rfl (fun r_11 _ H locs hw_12 hH hS => ?_)
    obtain ⟨hr_14, he_15⟩ := hw_12
    have hr_14 : (-1 : Int) ≤ r_11.toInt ∧ r_11.toInt ≤ 4 := hr_14
    exact sj_zret hx hb hr hlocks rfl hS () ⟨⟨by omega, by omega⟩, (by omega)⟩ hH (sj_Knil hK) (Nat.le_of_ble_eq_true rfl) (Nat.le_of_ble_eq_true rfl) dJ1_indexOf_4cfef_36
  · skip
    have h_16 := s_eq (rfl : r_2.toInt = _) (show (0 : Int32).toInt = 0 from rfl) c_7
    refine lv_iconst (v := (-1)) hx hb dJ1_indexOf_4cfef_7 (by decide) ?_
    have hlv_17 : ((-1) : Int32).toInt = -1 := rfl
    exact sj_zret hx hb hr hlocks rfl hS () ⟨⟨by decide, by decide⟩, (by have h9 : ((-1) : Int32).toInt = -1 := rfl; omega)⟩ hH (sj_Knil hK) (Nat.le_of_ble_eq_true rfl) (Nat.le_of_ble_eq_true rfl) dJ1_indexOf_4cfef_8
set_option maxHeartbeats 2000000 in
set_option maxRecDepth 100000 in
theorem k_length_1 (l : Launch) (D : va_G) (g : Nat → Nat) (ka : Nat → ClassId) (ad : Nat → Nat) (i : Nat → Nat → Int32) (r : Nat → Nat → Nat) (L : Nat → Nat → Int64) (d : Nat → Nat → UInt64)  (hO : OkI i) (hR : RS r) (sz : Nat)  : Met l yJ0_length_8abf5 wsJ0_length_8abf5 ({ frames := 1, cells := 0, slots := 0, locals := 20 }) (va_Pc [.ref (ad 1)] (sj_B D (hwc g ka i r L d) (hT ka) sz (gx ad (va_A (hwc g ka i r L d) sz)))) (sj_Qi (S := Unit) D (fun v u => ((5 : Int) ≤ v.toInt ∧ v.toInt ≤ 5)) (fun _ => hwc g ka i r L d) (fun _ => []) (va_A (hwc g ka i r L d) sz)) 0 0 (va_A (hwc g ka i r L d) sz) := by
  refine x_met (Ex := gx ad) (cc := cJ0_length_8abf5) (maxL := 1) (ret := (some .int)) (by decide) rfl (Nat.le_of_ble_eq_true rfl) ?_
  intro p e s m below meth c A ls hx hb hr hml hts hown hlocks hA hS hH hK hE hl
  have hown : s.vm.findClass RJ0 = some m.cls := hown
  have wd0 := hts (.fieldLink RJ0 9 "java/lang/String" "value" "[B") (List.mem_cons_of_mem _ lm0)
  have hl : lv_has ls 1 [(0, .ref (ad 1))] := hl
  have hK : va_K D vwCl (hT ka) s := hK
  refine lv_aload_n hx hb dJ0_length_8abf5_0 rfl (lv_at hl 0 rfl) ?_
  refine vk_getf hx hb (hE.1.1.1 1 (by decide)).2.2.1 hS hown wd0 (fun _ h9 => h9) dJ0_length_8abf5_1 ?_
  refine sj_v (y := .ref (ad (5 + 1))) rfl ?_
  refine va_tlen (v := 5) hx hb (hE.1.1.1 1 (by decide)).2.2.2 hS rfl dJ0_length_8abf5_4 ?_
  refine lv_aload_n hx hb dJ0_length_8abf5_5 rfl (lv_at hl 0 rfl) ?_
  refine x_calli (va_runV (As := []) (rest := [.int 5]) ⟨hx, hb, hml, hown, hts⟩ (k_coder_1 l D g ka ad i r L d  hO hR s.heap.size ) (cwV 0 hts gJ0_length_8abf5_J0_coder_7d493 rfl rfl rfl (by decide +kernel) ⟨(Nat.le_of_ble_eq_true rfl), (Nat.le_of_ble_eq_true rfl)⟩) (x_preS2 (n := 1) hE.1.1 (by decide) hH hK hS gxb (gxw hE hS (x_F hH hS hA))) rfl rfl hl.1 rfl (lv_room (Nat.le_of_ble_eq_true rfl)) dJ0_length_8abf5_6 ⟨(Nat.le_of_ble_eq_true rfl), (Nat.le_of_ble_eq_true rfl)⟩) hH hS hA rfl rfl (fun r_1 _ H locs hw_2 hH hS => ?_)
  have hr_4 := hw_2
  have hr_4 : (0 : Int) ≤ r_1.toInt ∧ r_1.toInt ≤ 0 := hr_4
  obtain rfl : r_1 = 0 := p_eq rfl (show (0 : Int32).toInt = 0 from rfl) (by omega)
  refine lv_ishr hx hb dJ0_length_8abf5_9 ?_
  refine sj_i (y := 5) (by decide) ?_
  exact sj_zret hx hb hr hlocks rfl hS () ⟨by decide, by decide⟩ hH (sj_Knil hK) (Nat.le_of_ble_eq_true rfl) (Nat.le_of_ble_eq_true rfl) dJ0_length_8abf5_10
set_option maxHeartbeats 2000000 in
set_option maxRecDepth 100000 in
theorem k_indexOf2_1 (l : Launch) (D : va_G) (g : Nat → Nat) (ka : Nat → ClassId) (ad : Nat → Nat) (i : Nat → Nat → Int32) (r : Nat → Nat → Nat) (L : Nat → Nat → Int64) (d : Nat → Nat → UInt64) (x : Int32) (hO : OkI i) (hR : RS r) (sz : Nat)  : Met l yJ0_indexOf_7cf53 wsJ0_indexOf_7cf53 ({ frames := 2, cells := 0, slots := 0, locals := 53 }) (va_Pc [.ref (ad 1), .int x, .int 0] (sj_B D (hwc g ka i r L d) (hT ka) sz (gx ad (va_A (hwc g ka i r L d) sz)))) (sj_Qi (S := Unit) D (fun v u => ((-1 : Int) ≤ v.toInt ∧ v.toInt ≤ 4) ∧ ((x.toInt = 80 ∧ v.toInt = 0) ∨ (x.toInt = 81 ∧ v.toInt = 1) ∨ (x.toInt = 72 ∧ v.toInt = 2) ∨ (x.toInt = 67 ∧ v.toInt = 3) ∨ (x.toInt = 88 ∧ v.toInt = 4) ∨ (x.toInt ≠ 80 ∧ x.toInt ≠ 81 ∧ x.toInt ≠ 72 ∧ x.toInt ≠ 67 ∧ x.toInt ≠ 88 ∧ v.toInt = -1))) (fun _ => hwc g ka i r L d) (fun _ => []) (va_A (hwc g ka i r L d) sz)) 0 0 (va_A (hwc g ka i r L d) sz) := by
  refine x_met (Ex := gx ad) (cc := cJ0_indexOf_7cf53) (maxL := 3) (ret := (some .int)) (by decide) rfl (Nat.le_of_ble_eq_true rfl) ?_
  intro p e s m below meth c A ls hx hb hr hml hts hown hlocks hA hS hH hK hE hl
  have hown : s.vm.findClass RJ0 = some m.cls := hown
  have wd0 := hts (.fieldLink RJ0 9 "java/lang/String" "value" "[B") (List.mem_cons_of_mem _ (List.mem_append_left _ lm0))
  have hl : lv_has ls 3 [(0, .ref (ad 1)), (1, .int x), (2, .int 0)] := hl
  have hK : va_K D vwCl (hT ka) s := hK
  have hg_1 := s_rng x
  refine lv_aload_n hx hb dJ0_indexOf_7cf53_0 rfl (lv_at hl 0 rfl) ?_
  refine x_calli (va_runV (As := []) (rest := []) ⟨hx, hb, hml, hown, hts⟩ (k_isLatin1_1 l D g ka ad i r L d  hO hR s.heap.size ) (cwV 0 hts gJ0_indexOf_7cf53_J0_isLatin1_aae02 rfl rfl rfl (by decide +kernel) ⟨(Nat.le_of_ble_eq_true rfl), (Nat.le_of_ble_eq_true rfl)⟩) (x_preS2 (n := 1) hE.1.1 (by decide) hH hK hS gxb (gxw hE hS (x_F hH hS hA))) rfl rfl hl.1 rfl (lv_room (Nat.le_of_ble_eq_true rfl)) dJ0_indexOf_7cf53_1 ⟨(Nat.le_of_ble_eq_true rfl), (Nat.le_of_ble_eq_true rfl)⟩) hH hS hA rfl rfl (fun r_2 _ H locs hw_3 hH hS => ?_)
  have hr_5 := hw_3
  have hr_5 : (1 : Int) ≤ r_2.toInt ∧ r_2.toInt ≤ 1 := hr_5
  obtain rfl : r_2 = 1 := p_eq rfl (show (1 : Int32).toInt = 1 from rfl) (by omega)
  refine lv_if_eq (tgt := 23) hx hb dJ0_indexOf_7cf53_4 (by decide) (fun h => absurd h (by decide)) (fun _ => ?_)
  refine lv_aload_n hx hb dJ0_indexOf_7cf53_7 rfl (lv_at hl 0 rfl) ?_
  refine vk_getf hx hb (hE.1.1.1 1 (by decide)).2.2.1 hS hown wd0 (fun _ h9 => h9) dJ0_indexOf_7cf53_8 ?_
  refine sj_v (y := .ref (ad (5 + 1))) rfl ?_
  refine lv_iload_n hx hb dJ0_indexOf_7cf53_11 rfl (lv_at hl 1 rfl) ?_
  refine lv_iload_n hx hb dJ0_indexOf_7cf53_12 rfl (lv_at hl 2 rfl) ?_
  refine lv_aload_n hx hb dJ0_indexOf_7cf53_13 rfl (lv_at hl 0 rfl) ?_
  refine x_calli (va_runV (As := []) (rest := [.int 0, .int x, .ref (ad (5 + 1))]) ⟨hx, hb, hml, hown, hts⟩ (k_length_1 l D g ka ad i r L d  hO hR H.size ) (cwV 0 hts gJ0_indexOf_7cf53_J0_length_8abf5 rfl rfl rfl (by decide +kernel) ⟨(Nat.le_of_ble_eq_true rfl), (Nat.le_of_ble_eq_true rfl)⟩) (x_preS2 (n := 1) hE.1.1 (by decide) hH hK hS gxb (gxw hE hS (x_F hH hS hA))) rfl rfl hl.1 rfl (lv_room (Nat.le_of_ble_eq_true rfl)) dJ0_indexOf_7cf53_14 ⟨(Nat.le_of_ble_eq_true rfl), (Nat.le_of_ble_eq_true rfl)⟩) hH hS hA rfl rfl (fun r_6 _ H locs hw_7 hH hS => ?_)
  have hr_9 := hw_7
  have hr_9 : (5 : Int) ≤ r_6.toInt ∧ r_6.toInt ≤ 5 := hr_9
  obtain rfl : r_6 = 5 := p_eq rfl (show (5 : Int32).toInt = 5 from rfl) (by omega)
  have hl_10 : (0 : Int32).toInt = 0 := rfl
  have hl_11 : (5 : Int32).toInt = 5 := rfl
  refine x_calli (va_runS (As := [.ref (ad (5 + 1)), .int x, .int 0, .int 5]) (rest := []) ⟨hx, hb, hml, hown, hts⟩ (k_indexOfL_1 l D g ka ad i r L d x hO hR H.size ) (va_cwS 4 hts gJ0_indexOf_7cf53_J1_indexOf_4cfef rfl rfl rfl (by decide +kernel) ⟨(Nat.le_of_ble_eq_true rfl), (Nat.le_of_ble_eq_true rfl)⟩) (x_preS hH hK gxb (gxw hE hS (x_F hH hS hA))) rfl rfl hl.1 rfl (lv_room (Nat.le_of_ble_eq_true rfl)) dJ0_indexOf_7cf53_17 ⟨(Nat.le_of_ble_eq_true rfl), (Nat.le_of_ble_eq_true rfl)⟩) hH hS hA rfl rfl (fun r_12 _ H locs hw_13 hH hS => ?_)
  obtain ⟨hr_15, he_16⟩ := hw_13
  have hr_15 : (-1 : Int) ≤ r_12.toInt ∧ r_12.toInt ≤ 4 := hr_15
  refine lv_goto (tgt := 36) hx hb dJ0_indexOf_7cf53_20 (by decide) ?_
  exact sj_zret hx hb hr hlocks rfl hS () ⟨⟨by omega, by omega⟩, (by omega)⟩ hH (sj_Knil hK) (Nat.le_of_ble_eq_true rfl) (Nat.le_of_ble_eq_true rfl) dJ0_indexOf_7cf53_36
set_option maxHeartbeats 2000000 in
set_option maxRecDepth 100000 in
theorem k_indexOf_1 (l : Launch) (D : va_G) (g : Nat → Nat) (ka : Nat → ClassId) (ad : Nat → Nat) (i : Nat → Nat → Int32) (r : Nat → Nat → Nat) (L : Nat → Nat → Int64) (d : Nat → Nat → UInt64) (x : Int32) (hO : OkI i) (hR : RS r) (sz : Nat)  : Met l yJ0_indexOf_0f7a4 wsJ0_indexOf_0f7a4 ({ frames := 3, cells := 0, slots := 0, locals := 75 }) (va_Pc [.ref (ad 1), .int x] (sj_B D (hwc g ka i r L d) (hT ka) sz (gx ad (va_A (hwc g ka i r L d) sz)))) (sj_Qi (S := Unit) D (fun v u => ((-1 : Int) ≤ v.toInt ∧ v.toInt ≤ 4) ∧ ((x.toInt = 80 ∧ v.toInt = 0) ∨ (x.toInt = 81 ∧ v.toInt = 1) ∨ (x.toInt = 72 ∧ v.toInt = 2) ∨ (x.toInt = 67 ∧ v.toInt = 3) ∨ (x.toInt = 88 ∧ v.toInt = 4) ∨ (x.toInt ≠ 80 ∧ x.toInt ≠ 81 ∧ x.toInt ≠ 72 ∧ x.toInt ≠ 67 ∧ x.toInt ≠ 88 ∧ v.toInt = -1))) (fun _ => hwc g ka i r L d) (fun _ => []) (va_A (hwc g ka i r L d) sz)) 0 0 (va_A (hwc g ka i r L d) sz) := by
  refine x_met (Ex := gx ad) (cc := cJ0_indexOf_0f7a4) (maxL := 2) (ret := (some .int)) (by decide) rfl (Nat.le_of_ble_eq_true rfl) ?_
  intro p e s m below meth c A ls hx hb hr hml hts hown hlocks hA hS hH hK hE hl
  have hown : s.vm.findClass RJ0 = some m.cls := hown
  have hl : lv_has ls 2 [(0, .ref (ad 1)), (1, .int x)] := hl
  have hK : va_K D vwCl (hT ka) s := hK
  have hg_1 := s_rng x
  refine lv_aload_n hx hb dJ0_indexOf_0f7a4_0 rfl (lv_at hl 0 rfl) ?_
  refine lv_iload_n hx hb dJ0_indexOf_0f7a4_1 rfl (lv_at hl 1 rfl) ?_
  refine lv_iconst (v := 0) hx hb dJ0_indexOf_0f7a4_2 (by decide) ?_
  have hl_2 : (0 : Int32).toInt = 0 := rfl
  refine x_calli (va_runV (As := [.int x, .int 0]) (rest := []) ⟨hx, hb, hml, hown, hts⟩ (k_indexOf2_1 l D g ka ad i r L d x hO hR s.heap.size ) (cwV 2 hts gJ0_indexOf_0f7a4_J0_indexOf_7cf53 rfl rfl rfl (by decide +kernel) ⟨(Nat.le_of_ble_eq_true rfl), (Nat.le_of_ble_eq_true rfl)⟩) (x_preS2 (n := 1) hE.1.1 (by decide) hH hK hS gxb (gxw hE hS (x_F hH hS hA))) rfl rfl hl.1 rfl (lv_room (Nat.le_of_ble_eq_true rfl)) dJ0_indexOf_0f7a4_3 ⟨(Nat.le_of_ble_eq_true rfl), (Nat.le_of_ble_eq_true rfl)⟩) hH hS hA rfl rfl (fun r_3 _ H locs hw_4 hH hS => ?_)
  obtain ⟨hr_6, he_7⟩ := hw_4
  have hr_6 : (-1 : Int) ≤ r_3.toInt ∧ r_3.toInt ≤ 4 := hr_6
  exact sj_zret hx hb hr hlocks rfl hS () ⟨⟨by omega, by omega⟩, (by omega)⟩ hH (sj_Knil hK) (Nat.le_of_ble_eq_true rfl) (Nat.le_of_ble_eq_true rfl) dJ0_indexOf_0f7a4_6
set_option maxHeartbeats 2000000 in
set_option maxRecDepth 100000 in
theorem k_indexOfChar_2 (l : Launch) (D : va_G) (g : Nat → Nat) (ka : Nat → ClassId) (ad : Nat → Nat) (i : Nat → Nat → Int32) (r : Nat → Nat → Nat) (L : Nat → Nat → Int64) (d : Nat → Nat → UInt64) (x : Int32) (hO : OkI i) (hR : RS r) (sz : Nat) (h0 : 0 ≤ x.toInt) (h1 : x.toInt ≤ 255) : Met l yJ1_indexOfChar_4cfef wsJ1_indexOfChar_4cfef ({ frames := 0, cells := 0, slots := 0, locals := 0 }) (va_Pc [.ref (ad (5 + 2)), .int x, .int 0, .int 5] (sj_B D (hwc g ka i r L d) (hT ka) sz (gx ad (va_A (hwc g ka i r L d) sz)))) (sj_Qi (S := Unit) D (fun v u => ((-1 : Int) ≤ v.toInt ∧ v.toInt ≤ 4) ∧ ((x.toInt = 70 ∧ v.toInt = 0) ∨ (x.toInt = 82 ∧ v.toInt = 1) ∨ (x.toInt = 66 ∧ v.toInt = 2) ∨ (x.toInt = 83 ∧ v.toInt = 3) ∨ (x.toInt = 69 ∧ v.toInt = 4) ∨ (x.toInt ≠ 70 ∧ x.toInt ≠ 82 ∧ x.toInt ≠ 66 ∧ x.toInt ≠ 83 ∧ x.toInt ≠ 69 ∧ v.toInt = -1))) (fun _ => hwc g ka i r L d) (fun _ => []) (va_A (hwc g ka i r L d) sz)) 0 0 (va_A (hwc g ka i r L d) sz) := by
  refine x_met (Ex := gx ad) (cc := cJ1_indexOfChar_4cfef) (maxL := 6) (ret := (some .int)) (by decide) rfl (Nat.le_of_ble_eq_true rfl) ?_
  intro p e s m below meth c A ls hx hb hr hml hts hown hlocks hA hS hH hK hE hl
  have hown : s.vm.findClass RJ1 = some m.cls := hown
  have hl : lv_has ls 6 [(0, .ref (ad (5 + 2))), (1, .int x), (2, .int 0), (3, .int 5)] := hl
  have hK : va_K D vwCl (hT ka) s := hK
  have hg_1 := s_rng x
  refine lv_iload_n hx hb dJ1_indexOfChar_4cfef_0 rfl (lv_at hl 1 rfl) ?_
  refine lv_i2b hx hb dJ1_indexOfChar_4cfef_1 rfl ?_
  refine lv_topi (fun z_2 ez_2 => ?_)
  have hz_2 := s_i2b ez_2 (by omega) (by omega)
  refine lv_istore (lv' := [(4, .int z_2), (0, .ref (ad (5 + 2))), (1, .int x), (2, .int 0), (3, .int 5)]) hx hb dJ1_indexOfChar_4cfef_2 hl (by decide) rfl (fun ls hl => ?_)
  refine lv_iload_n hx hb dJ1_indexOfChar_4cfef_4 rfl (lv_at hl 3 rfl) ?_
  refine lv_istore (lv' := [(5, .int 0), (4, .int z_2), (0, .ref (ad (5 + 2))), (1, .int x), (2, .int 0), (3, .int 5)]) hx hb dJ1_indexOfChar_4cfef_5 hl (by decide) rfl (fun ls hl => ?_)
  refine lv_iload hx hb dJ1_indexOfChar_4cfef_7 (lv_at hl 0 rfl) ?_
  refine lv_iload_n hx hb dJ1_indexOfChar_4cfef_9 rfl (lv_at hl 5 rfl) ?_
  refine lv_icmp_ge (tgt := 31) hx hb dJ1_indexOfChar_4cfef_10 (by decide) (fun h => absurd h (by decide)) (fun _ => ?_)
  refine lv_aload_n hx hb dJ1_indexOfChar_4cfef_13 rfl (lv_at hl 2 rfl) ?_
  refine lv_iload hx hb dJ1_indexOfChar_4cfef_14 (lv_at hl 0 rfl) ?_
  refine va_tb (v := .int 70) hx hb (hE.1.1.1 2 (by decide)).2.2.2 hS (sj_vin (by decide) (by decide)) rfl dJ1_indexOfChar_4cfef_16 ?_
  refine lv_iload hx hb dJ1_indexOfChar_4cfef_17 (lv_at hl 1 rfl) ?_
  refine lv_icmp_ne (tgt := 25) hx hb dJ1_indexOfChar_4cfef_19 (by decide) (fun c_3 => ?_) (fun c_3 => ?_)
  · skip
    have h_4 := s_ne (show (70 : Int32).toInt = 70 from rfl) (rfl : z_2.toInt = _) c_3
    refine lv_iinc (v := 1) (lv' := [(5, .int 1), (4, .int z_2), (0, .ref (ad (5 + 2))), (1, .int x), (2, .int 0), (3, .int 5)]) hx hb dJ1_indexOfChar_4cfef_25 hl (k := 0) rfl (by decide) (by decide) rfl (fun ls hl => ?_)
    refine lv_goto (tgt := 7) hx hb dJ1_indexOfChar_4cfef_28 (by decide) ?_
    refine lv_iload hx hb dJ1_indexOfChar_4cfef_7 (lv_at hl 0 rfl) ?_
    refine lv_iload_n hx hb dJ1_indexOfChar_4cfef_9 rfl (lv_at hl 5 rfl) ?_
    refine lv_icmp_ge (tgt := 31) hx hb dJ1_indexOfChar_4cfef_10 (by decide) (fun h => absurd h (by decide)) (fun _ => ?_)
    refine lv_aload_n hx hb dJ1_indexOfChar_4cfef_13 rfl (lv_at hl 2 rfl) ?_
    refine lv_iload hx hb dJ1_indexOfChar_4cfef_14 (lv_at hl 0 rfl) ?_
    refine va_tb (v := .int 82) hx hb (hE.1.1.1 2 (by decide)).2.2.2 hS (sj_vin (by decide) (by decide)) rfl dJ1_indexOfChar_4cfef_16 ?_
    refine lv_iload hx hb dJ1_indexOfChar_4cfef_17 (lv_at hl 1 rfl) ?_
    refine lv_icmp_ne (tgt := 25) hx hb dJ1_indexOfChar_4cfef_19 (by decide) (fun c_5 => ?_) (fun c_5 => ?_)
    · skip
      have h_6 := s_ne (show (82 : Int32).toInt = 82 from rfl) (rfl : z_2.toInt = _) c_5
      refine lv_iinc (v := 2) (lv' := [(5, .int 2), (4, .int z_2), (0, .ref (ad (5 + 2))), (1, .int x), (2, .int 0), (3, .int 5)]) hx hb dJ1_indexOfChar_4cfef_25 hl (k := 0) rfl (by decide) (by decide) rfl (fun ls hl => ?_)
      refine lv_goto (tgt := 7) hx hb dJ1_indexOfChar_4cfef_28 (by decide) ?_
      refine lv_iload hx hb dJ1_indexOfChar_4cfef_7 (lv_at hl 0 rfl) ?_
      refine lv_iload_n hx hb dJ1_indexOfChar_4cfef_9 rfl (lv_at hl 5 rfl) ?_
      refine lv_icmp_ge (tgt := 31) hx hb dJ1_indexOfChar_4cfef_10 (by decide) (fun h => absurd h (by decide)) (fun _ => ?_)
      refine lv_aload_n hx hb dJ1_indexOfChar_4cfef_13 rfl (lv_at hl 2 rfl) ?_
      refine lv_iload hx hb dJ1_indexOfChar_4cfef_14 (lv_at hl 0 rfl) ?_
      refine va_tb (v := .int 66) hx hb (hE.1.1.1 2 (by decide)).2.2.2 hS (sj_vin (by decide) (by decide)) rfl dJ1_indexOfChar_4cfef_16 ?_
      refine lv_iload hx hb dJ1_indexOfChar_4cfef_17 (lv_at hl 1 rfl) ?_
      refine lv_icmp_ne (tgt := 25) hx hb dJ1_indexOfChar_4cfef_19 (by decide) (fun c_7 => ?_) (fun c_7 => ?_)
      · skip
        have h_8 := s_ne (show (66 : Int32).toInt = 66 from rfl) (rfl : z_2.toInt = _) c_7
        refine lv_iinc (v := 3) (lv' := [(5, .int 3), (4, .int z_2), (0, .ref (ad (5 + 2))), (1, .int x), (2, .int 0), (3, .int 5)]) hx hb dJ1_indexOfChar_4cfef_25 hl (k := 0) rfl (by decide) (by decide) rfl (fun ls hl => ?_)
        refine lv_goto (tgt := 7) hx hb dJ1_indexOfChar_4cfef_28 (by decide) ?_
        refine lv_iload hx hb dJ1_indexOfChar_4cfef_7 (lv_at hl 0 rfl) ?_
        refine lv_iload_n hx hb dJ1_indexOfChar_4cfef_9 rfl (lv_at hl 5 rfl) ?_
        refine lv_icmp_ge (tgt := 31) hx hb dJ1_indexOfChar_4cfef_10 (by decide) (fun h => absurd h (by decide)) (fun _ => ?_)
        refine lv_aload_n hx hb dJ1_indexOfChar_4cfef_13 rfl (lv_at hl 2 rfl) ?_
        refine lv_iload hx hb dJ1_indexOfChar_4cfef_14 (lv_at hl 0 rfl) ?_
        refine va_tb (v := .int 83) hx hb (hE.1.1.1 2 (by decide)).2.2.2 hS (sj_vin (by decide) (by decide)) rfl dJ1_indexOfChar_4cfef_16 ?_
        refine lv_iload hx hb dJ1_indexOfChar_4cfef_17 (lv_at hl 1 rfl) ?_
        refine lv_icmp_ne (tgt := 25) hx hb dJ1_indexOfChar_4cfef_19 (by decide) (fun c_9 => ?_) (fun c_9 => ?_)
        · skip
          have h_10 := s_ne (show (83 : Int32).toInt = 83 from rfl) (rfl : z_2.toInt = _) c_9
          refine lv_iinc (v := 4) (lv' := [(5, .int 4), (4, .int z_2), (0, .ref (ad (5 + 2))), (1, .int x), (2, .int 0), (3, .int 5)]) hx hb dJ1_indexOfChar_4cfef_25 hl (k := 0) rfl (by decide) (by decide) rfl (fun ls hl => ?_)
          refine lv_goto (tgt := 7) hx hb dJ1_indexOfChar_4cfef_28 (by decide) ?_
          refine lv_iload hx hb dJ1_indexOfChar_4cfef_7 (lv_at hl 0 rfl) ?_
          refine lv_iload_n hx hb dJ1_indexOfChar_4cfef_9 rfl (lv_at hl 5 rfl) ?_
          refine lv_icmp_ge (tgt := 31) hx hb dJ1_indexOfChar_4cfef_10 (by decide) (fun h => absurd h (by decide)) (fun _ => ?_)
          refine lv_aload_n hx hb dJ1_indexOfChar_4cfef_13 rfl (lv_at hl 2 rfl) ?_
          refine lv_iload hx hb dJ1_indexOfChar_4cfef_14 (lv_at hl 0 rfl) ?_
          refine va_tb (v := .int 69) hx hb (hE.1.1.1 2 (by decide)).2.2.2 hS (sj_vin (by decide) (by decide)) rfl dJ1_indexOfChar_4cfef_16 ?_
          refine lv_iload hx hb dJ1_indexOfChar_4cfef_17 (lv_at hl 1 rfl) ?_
          refine lv_icmp_ne (tgt := 25) hx hb dJ1_indexOfChar_4cfef_19 (by decide) (fun c_11 => ?_) (fun c_11 => ?_)
          · skip
            have h_12 := s_ne (show (69 : Int32).toInt = 69 from rfl) (rfl : z_2.toInt = _) c_11
            refine lv_iinc (v := 5) (lv' := [(5, .int 5), (4, .int z_2), (0, .ref (ad (5 + 2))), (1, .int x), (2, .int 0), (3, .int 5)]) hx hb dJ1_indexOfChar_4cfef_25 hl (k := 0) rfl (by decide) (by decide) rfl (fun ls hl => ?_)
            refine lv_goto (tgt := 7) hx hb dJ1_indexOfChar_4cfef_28 (by decide) ?_
            refine lv_iload hx hb dJ1_indexOfChar_4cfef_7 (lv_at hl 0 rfl) ?_
            refine lv_iload_n hx hb dJ1_indexOfChar_4cfef_9 rfl (lv_at hl 5 rfl) ?_
            refine lv_icmp_ge (tgt := 31) hx hb dJ1_indexOfChar_4cfef_10 (by decide) (fun _ => ?_) (fun h => absurd (by decide) h)
            refine lv_iconst (v := (-1)) hx hb dJ1_indexOfChar_4cfef_31 (by decide) ?_
            have hlv_13 : ((-1) : Int32).toInt = -1 := rfl
            exact sj_zret hx hb hr hlocks rfl hS () ⟨⟨by decide, by decide⟩, (by have h9 : ((-1) : Int32).toInt = -1 := rfl; omega)⟩ hH (sj_Knil hK) (Nat.le_of_ble_eq_true rfl) (Nat.le_of_ble_eq_true rfl) dJ1_indexOfChar_4cfef_32
          · skip
            have h_14 := s_eq (show (69 : Int32).toInt = 69 from rfl) (rfl : z_2.toInt = _) c_11
            refine lv_iload hx hb dJ1_indexOfChar_4cfef_22 (lv_at hl 0 rfl) ?_
            have hlv_15 : (4 : Int32).toInt = 4 := rfl
            exact sj_zret hx hb hr hlocks rfl hS () ⟨⟨by decide, by decide⟩, (by have h9 : (4 : Int32).toInt = 4 := rfl; omega)⟩ hH (sj_Knil hK) (Nat.le_of_ble_eq_true rfl) (Nat.le_of_ble_eq_true rfl) dJ1_indexOfChar_4cfef_24
        · skip
          have h_16 := s_eq (show (83 : Int32).toInt = 83 from rfl) (rfl : z_2.toInt = _) c_9
          refine lv_iload hx hb dJ1_indexOfChar_4cfef_22 (lv_at hl 0 rfl) ?_
          have hlv_17 : (3 : Int32).toInt = 3 := rfl
          exact sj_zret hx hb hr hlocks rfl hS () ⟨⟨by decide, by decide⟩, (by have h9 : (3 : Int32).toInt = 3 := rfl; omega)⟩ hH (sj_Knil hK) (Nat.le_of_ble_eq_true rfl) (Nat.le_of_ble_eq_true rfl) dJ1_indexOfChar_4cfef_24
      · skip
        have h_18 := s_eq (show (66 : Int32).toInt = 66 from rfl) (rfl : z_2.toInt = _) c_7
        refine lv_iload hx hb dJ1_indexOfChar_4cfef_22 (lv_at hl 0 rfl) ?_
        have hlv_19 : (2 : Int32).toInt = 2 := rfl
        exact sj_zret hx hb hr hlocks rfl hS () ⟨⟨by decide, by decide⟩, (by have h9 : (2 : Int32).toInt = 2 := rfl; omega)⟩ hH (sj_Knil hK) (Nat.le_of_ble_eq_true rfl) (Nat.le_of_ble_eq_true rfl) dJ1_indexOfChar_4cfef_24
    · skip
      have h_20 := s_eq (show (82 : Int32).toInt = 82 from rfl) (rfl : z_2.toInt = _) c_5
      refine lv_iload hx hb dJ1_indexOfChar_4cfef_22 (lv_at hl 0 rfl) ?_
      have hlv_21 : (1 : Int32).toInt = 1 := rfl
      exact sj_zret hx hb hr hlocks rfl hS () ⟨⟨by decide, by decide⟩, (by have h9 : (1 : Int32).toInt = 1 := rfl; omega)⟩ hH (sj_Knil hK) (Nat.le_of_ble_eq_true rfl) (Nat.le_of_ble_eq_true rfl) dJ1_indexOfChar_4cfef_24
  · skip
    have h_22 := s_eq (show (70 : Int32).toInt = 70 from rfl) (rfl : z_2.toInt = _) c_3
    refine lv_iload hx hb dJ1_indexOfChar_4cfef_22 (lv_at hl 0 rfl) ?_
    have hlv_23 : (0 : Int32).toInt = 0 := rfl
    exact sj_zret hx hb hr hlocks rfl hS () ⟨⟨by decide, by decide⟩, (by have h9 : (0 : Int32).toInt = 0 := rfl; omega)⟩ hH (sj_Knil hK) (Nat.le_of_ble_eq_true rfl) (Nat.le_of_ble_eq_true rfl) dJ1_indexOfChar_4cfef_24
set_option maxHeartbeats 2000000 in
set_option maxRecDepth 100000 in
theorem k_indexOfL_2 (l : Launch) (D : va_G) (g : Nat → Nat) (ka : Nat → ClassId) (ad : Nat → Nat) (i : Nat → Nat → Int32) (r : Nat → Nat → Nat) (L : Nat → Nat → Int64) (d : Nat → Nat → UInt64) (x : Int32) (hO : OkI i) (hR : RS r) (sz : Nat)  : Met l yJ1_indexOf_4cfef wsJ1_indexOf_4cfef ({ frames := 1, cells := 0, slots := 0, locals := 30 }) (va_Pc [.ref (ad (5 + 2)), .int x, .int 0, .int 5] (sj_B D (hwc g ka i r L d) (hT ka) sz (gx ad (va_A (hwc g ka i r L d) sz)))) (sj_Qi (S := Unit) D (fun v u => ((-1 : Int) ≤ v.toInt ∧ v.toInt ≤ 4) ∧ ((x.toInt = 70 ∧ v.toInt = 0) ∨ (x.toInt = 82 ∧ v.toInt = 1) ∨ (x.toInt = 66 ∧ v.toInt = 2) ∨ (x.toInt = 83 ∧ v.toInt = 3) ∨ (x.toInt = 69 ∧ v.toInt = 4) ∨ (x.toInt ≠ 70 ∧ x.toInt ≠ 82 ∧ x.toInt ≠ 66 ∧ x.toInt ≠ 83 ∧ x.toInt ≠ 69 ∧ v.toInt = -1))) (fun _ => hwc g ka i r L d) (fun _ => []) (va_A (hwc g ka i r L d) sz)) 0 0 (va_A (hwc g ka i r L d) sz) := by
  refine x_met (Ex := gx ad) (cc := cJ1_indexOf_4cfef) (maxL := 4) (ret := (some .int)) (by decide) rfl (Nat.le_of_ble_eq_true rfl) ?_
  intro p e s m below meth c A ls hx hb hr hml hts hown hlocks hA hS hH hK hE hl
  have hown : s.vm.findClass RJ1 = some m.cls := hown
  have wd0 := hts (.methodLink RJ1 92 Lib.Math.max.name) (List.mem_cons_of_mem _ lm0)
  have wd1 := hts (.static Lib.Math.max.name) (List.mem_cons_of_mem _ lm1)
  have wd2 := hts (.initialized "java/lang/Math") (List.mem_cons_of_mem _ lm2)
  have wd3 := hts (.code Lib.Math.max.name Lib.Math.max.code 2 (some .int)) (List.mem_cons_of_mem _ lm3)
  have wd4 := hts (.methodLink RJ1 38 Lib.Math.min.name) (List.mem_cons_of_mem _ lm4)
  have wd5 := hts (.static Lib.Math.min.name) (List.mem_cons_of_mem _ lm5)
  have wd6 := hts (.code Lib.Math.min.name Lib.Math.min.code 2 (some .int)) (List.mem_cons_of_mem _ lm6)
  have hl : lv_has ls 4 [(0, .ref (ad (5 + 2))), (1, .int x), (2, .int 0), (3, .int 5)] := hl
  have hK : va_K D vwCl (hT ka) s := hK
  have hg_1 := s_rng x
  refine lv_iload_n hx hb dJ1_indexOf_4cfef_0 rfl (lv_at hl 1 rfl) ?_
  refine x_calli (va_runS (As := [.int x]) (rest := []) ⟨hx, hb, hml, hown, hts⟩ (k_canEncode l D g ka ad i r L d x hO hR s.heap.size ) (cwS 1 hts gJ1_indexOf_4cfef_J1_canEncode_9a6ad rfl rfl rfl (by decide +kernel) ⟨(Nat.le_of_ble_eq_true rfl), (Nat.le_of_ble_eq_true rfl)⟩) (x_preS hH hK gxb (gxw hE hS (x_F hH hS hA))) rfl rfl hl.1 rfl (lv_room (Nat.le_of_ble_eq_true rfl)) dJ1_indexOf_4cfef_1 ⟨(Nat.le_of_ble_eq_true rfl), (Nat.le_of_ble_eq_true rfl)⟩) hH hS hA rfl rfl (fun r_2 _ H locs hw_3 hH hS => ?_)
  obtain ⟨hr_5, he_6⟩ := hw_3
  have hr_5 : (0 : Int) ≤ r_2.toInt ∧ r_2.toInt ≤ 1 := hr_5
  refine lv_if_ne (tgt := 9) hx hb dJ1_indexOf_4cfef_4 (by decide) (fun c_7 => ?_) (fun c_7 => ?_)
  · skip
    have h_8 := s_ne (rfl : r_2.toInt = _) (show (0 : Int32).toInt = 0 from rfl) c_7
    refine lv_iload_n hx hb dJ1_indexOf_4cfef_9 rfl (lv_at hl 2 rfl) ?_
    refine lv_iconst (v := 0) hx hb dJ1_indexOf_4cfef_10 (by decide) ?_
    refine va_mmax hx hb (hml.trans hl.1.symm) hown wd0 wd1 wd2 wd3 (Nat.le_of_ble_eq_true rfl) (Nat.le_of_ble_eq_true rfl) (Nat.le_of_ble_eq_true rfl) (Nat.le_of_ble_eq_true rfl) dJ1_indexOf_4cfef_11 ?_
    refine sj_i (y := 0) (by decide) ?_
    refine lv_istore_n (lv' := [(2, .int 0), (0, .ref (ad (5 + 2))), (1, .int x), (3, .int 5)]) hx hb dJ1_indexOf_4cfef_14 rfl hl (by decide) rfl (fun ls hl => ?_)
    refine lv_iload_n hx hb dJ1_indexOf_4cfef_15 rfl (lv_at hl 3 rfl) ?_
    refine lv_aload_n hx hb dJ1_indexOf_4cfef_16 rfl (lv_at hl 1 rfl) ?_
    refine va_tlen (v := 5) hx hb (hE.1.1.1 2 (by decide)).2.2.2 hS rfl dJ1_indexOf_4cfef_17 ?_
    refine va_mmin hx hb (hml.trans hl.1.symm) hown wd4 wd5 wd2 wd6 (Nat.le_of_ble_eq_true rfl) (Nat.le_of_ble_eq_true rfl) (Nat.le_of_ble_eq_true rfl) (Nat.le_of_ble_eq_true rfl) dJ1_indexOf_4cfef_18 ?_
    refine sj_i (y := 5) (by decide) ?_
    refine lv_istore_n (lv' := [(3, .int 5), (2, .int 0), (0, .ref (ad (5 + 2))), (1, .int x)]) hx hb dJ1_indexOf_4cfef_21 rfl hl (by decide) rfl (fun ls hl => ?_)
    refine lv_iload_n hx hb dJ1_indexOf_4cfef_22 rfl (lv_at hl 1 rfl) ?_
    refine lv_iload_n hx hb dJ1_indexOf_4cfef_23 rfl (lv_at hl 0 rfl) ?_
    refine lv_icmp_lt (tgt := 29) hx hb dJ1_indexOf_4cfef_24 (by decide) (fun _ => ?_) (fun h => absurd (by decide) h)
    refine lv_aload_n hx hb dJ1_indexOf_4cfef_29 rfl (lv_at hl 2 rfl) ?_
    refine lv_iload_n hx hb dJ1_indexOf_4cfef_30 rfl (lv_at hl 3 rfl) ?_
    refine lv_iload_n hx hb dJ1_indexOf_4cfef_31 rfl (lv_at hl 1 rfl) ?_
    refine lv_iload_n hx hb dJ1_indexOf_4cfef_32 rfl (lv_at hl 0 rfl) ?_
    have hl_9 : (0 : Int32).toInt = 0 := rfl
    have hl_10 : (5 : Int32).toInt = 5 := rfl
    refine x_calli (va_runS (As := [.ref (ad (5 + 2)), .int x, .int 0, .int 5]) (rest := []) ⟨hx, hb, hml, hown, hts⟩ (k_indexOfChar_2 l D g ka ad i r L d x hO hR H.size (by first | omega | decide) (by first | omega | decide)) (cwS 4 hts gJ1_indexOf_4cfef_J1_indexOfChar_4cfef rfl rfl rfl (by decide +kernel) ⟨(Nat.le_of_ble_eq_true rfl), (Nat.le_of_ble_eq_true rfl)⟩) (x_preS hH hK gxb (gxw hE hS (x_F hH hS hA))) rfl rfl hl.1 rfl (lv_room (Nat.le_of_ble_eq_true rfl)) dJ1_indexOf_4cfef_33 ⟨(Nat.le_of_ble_eq_true rfl), (Nat.le_of_ble_eq_true rfl)⟩) hH hS hA rfl rfl (fun r_11 _ H locs hw_12 hH hS => ?_)
    obtain ⟨hr_14, he_15⟩ := hw_12
    have hr_14 : (-1 : Int) ≤ r_11.toInt ∧ r_11.toInt ≤ 4 := hr_14
    exact sj_zret hx hb hr hlocks rfl hS () ⟨⟨by omega, by omega⟩, (by omega)⟩ hH (sj_Knil hK) (Nat.le_of_ble_eq_true rfl) (Nat.le_of_ble_eq_true rfl) dJ1_indexOf_4cfef_36
  · skip
    have h_16 := s_eq (rfl : r_2.toInt = _) (show (0 : Int32).toInt = 0 from rfl) c_7
    refine lv_iconst (v := (-1)) hx hb dJ1_indexOf_4cfef_7 (by decide) ?_
    have hlv_17 : ((-1) : Int32).toInt = -1 := rfl
    exact sj_zret hx hb hr hlocks rfl hS () ⟨⟨by decide, by decide⟩, (by have h9 : ((-1) : Int32).toInt = -1 := rfl; omega)⟩ hH (sj_Knil hK) (Nat.le_of_ble_eq_true rfl) (Nat.le_of_ble_eq_true rfl) dJ1_indexOf_4cfef_8
set_option maxHeartbeats 2000000 in
set_option maxRecDepth 100000 in
theorem k_length_2 (l : Launch) (D : va_G) (g : Nat → Nat) (ka : Nat → ClassId) (ad : Nat → Nat) (i : Nat → Nat → Int32) (r : Nat → Nat → Nat) (L : Nat → Nat → Int64) (d : Nat → Nat → UInt64)  (hO : OkI i) (hR : RS r) (sz : Nat)  : Met l yJ0_length_8abf5 wsJ0_length_8abf5 ({ frames := 1, cells := 0, slots := 0, locals := 20 }) (va_Pc [.ref (ad 2)] (sj_B D (hwc g ka i r L d) (hT ka) sz (gx ad (va_A (hwc g ka i r L d) sz)))) (sj_Qi (S := Unit) D (fun v u => ((5 : Int) ≤ v.toInt ∧ v.toInt ≤ 5)) (fun _ => hwc g ka i r L d) (fun _ => []) (va_A (hwc g ka i r L d) sz)) 0 0 (va_A (hwc g ka i r L d) sz) := by
  refine x_met (Ex := gx ad) (cc := cJ0_length_8abf5) (maxL := 1) (ret := (some .int)) (by decide) rfl (Nat.le_of_ble_eq_true rfl) ?_
  intro p e s m below meth c A ls hx hb hr hml hts hown hlocks hA hS hH hK hE hl
  have hown : s.vm.findClass RJ0 = some m.cls := hown
  have wd0 := hts (.fieldLink RJ0 9 "java/lang/String" "value" "[B") (List.mem_cons_of_mem _ lm0)
  have hl : lv_has ls 1 [(0, .ref (ad 2))] := hl
  have hK : va_K D vwCl (hT ka) s := hK
  refine lv_aload_n hx hb dJ0_length_8abf5_0 rfl (lv_at hl 0 rfl) ?_
  refine vk_getf hx hb (hE.1.1.1 2 (by decide)).2.2.1 hS hown wd0 (fun _ h9 => h9) dJ0_length_8abf5_1 ?_
  refine sj_v (y := .ref (ad (5 + 2))) rfl ?_
  refine va_tlen (v := 5) hx hb (hE.1.1.1 2 (by decide)).2.2.2 hS rfl dJ0_length_8abf5_4 ?_
  refine lv_aload_n hx hb dJ0_length_8abf5_5 rfl (lv_at hl 0 rfl) ?_
  refine x_calli (va_runV (As := []) (rest := [.int 5]) ⟨hx, hb, hml, hown, hts⟩ (k_coder_2 l D g ka ad i r L d  hO hR s.heap.size ) (cwV 0 hts gJ0_length_8abf5_J0_coder_7d493 rfl rfl rfl (by decide +kernel) ⟨(Nat.le_of_ble_eq_true rfl), (Nat.le_of_ble_eq_true rfl)⟩) (x_preS2 (n := 2) hE.1.1 (by decide) hH hK hS gxb (gxw hE hS (x_F hH hS hA))) rfl rfl hl.1 rfl (lv_room (Nat.le_of_ble_eq_true rfl)) dJ0_length_8abf5_6 ⟨(Nat.le_of_ble_eq_true rfl), (Nat.le_of_ble_eq_true rfl)⟩) hH hS hA rfl rfl (fun r_1 _ H locs hw_2 hH hS => ?_)
  have hr_4 := hw_2
  have hr_4 : (0 : Int) ≤ r_1.toInt ∧ r_1.toInt ≤ 0 := hr_4
  obtain rfl : r_1 = 0 := p_eq rfl (show (0 : Int32).toInt = 0 from rfl) (by omega)
  refine lv_ishr hx hb dJ0_length_8abf5_9 ?_
  refine sj_i (y := 5) (by decide) ?_
  exact sj_zret hx hb hr hlocks rfl hS () ⟨by decide, by decide⟩ hH (sj_Knil hK) (Nat.le_of_ble_eq_true rfl) (Nat.le_of_ble_eq_true rfl) dJ0_length_8abf5_10
set_option maxHeartbeats 2000000 in
set_option maxRecDepth 100000 in
theorem k_indexOf2_2 (l : Launch) (D : va_G) (g : Nat → Nat) (ka : Nat → ClassId) (ad : Nat → Nat) (i : Nat → Nat → Int32) (r : Nat → Nat → Nat) (L : Nat → Nat → Int64) (d : Nat → Nat → UInt64) (x : Int32) (hO : OkI i) (hR : RS r) (sz : Nat)  : Met l yJ0_indexOf_7cf53 wsJ0_indexOf_7cf53 ({ frames := 2, cells := 0, slots := 0, locals := 53 }) (va_Pc [.ref (ad 2), .int x, .int 0] (sj_B D (hwc g ka i r L d) (hT ka) sz (gx ad (va_A (hwc g ka i r L d) sz)))) (sj_Qi (S := Unit) D (fun v u => ((-1 : Int) ≤ v.toInt ∧ v.toInt ≤ 4) ∧ ((x.toInt = 70 ∧ v.toInt = 0) ∨ (x.toInt = 82 ∧ v.toInt = 1) ∨ (x.toInt = 66 ∧ v.toInt = 2) ∨ (x.toInt = 83 ∧ v.toInt = 3) ∨ (x.toInt = 69 ∧ v.toInt = 4) ∨ (x.toInt ≠ 70 ∧ x.toInt ≠ 82 ∧ x.toInt ≠ 66 ∧ x.toInt ≠ 83 ∧ x.toInt ≠ 69 ∧ v.toInt = -1))) (fun _ => hwc g ka i r L d) (fun _ => []) (va_A (hwc g ka i r L d) sz)) 0 0 (va_A (hwc g ka i r L d) sz) := by
  refine x_met (Ex := gx ad) (cc := cJ0_indexOf_7cf53) (maxL := 3) (ret := (some .int)) (by decide) rfl (Nat.le_of_ble_eq_true rfl) ?_
  intro p e s m below meth c A ls hx hb hr hml hts hown hlocks hA hS hH hK hE hl
  have hown : s.vm.findClass RJ0 = some m.cls := hown
  have wd0 := hts (.fieldLink RJ0 9 "java/lang/String" "value" "[B") (List.mem_cons_of_mem _ (List.mem_append_left _ lm0))
  have hl : lv_has ls 3 [(0, .ref (ad 2)), (1, .int x), (2, .int 0)] := hl
  have hK : va_K D vwCl (hT ka) s := hK
  have hg_1 := s_rng x
  refine lv_aload_n hx hb dJ0_indexOf_7cf53_0 rfl (lv_at hl 0 rfl) ?_
  refine x_calli (va_runV (As := []) (rest := []) ⟨hx, hb, hml, hown, hts⟩ (k_isLatin1_2 l D g ka ad i r L d  hO hR s.heap.size ) (cwV 0 hts gJ0_indexOf_7cf53_J0_isLatin1_aae02 rfl rfl rfl (by decide +kernel) ⟨(Nat.le_of_ble_eq_true rfl), (Nat.le_of_ble_eq_true rfl)⟩) (x_preS2 (n := 2) hE.1.1 (by decide) hH hK hS gxb (gxw hE hS (x_F hH hS hA))) rfl rfl hl.1 rfl (lv_room (Nat.le_of_ble_eq_true rfl)) dJ0_indexOf_7cf53_1 ⟨(Nat.le_of_ble_eq_true rfl), (Nat.le_of_ble_eq_true rfl)⟩) hH hS hA rfl rfl (fun r_2 _ H locs hw_3 hH hS => ?_)
  have hr_5 := hw_3
  have hr_5 : (1 : Int) ≤ r_2.toInt ∧ r_2.toInt ≤ 1 := hr_5
  obtain rfl : r_2 = 1 := p_eq rfl (show (1 : Int32).toInt = 1 from rfl) (by omega)
  refine lv_if_eq (tgt := 23) hx hb dJ0_indexOf_7cf53_4 (by decide) (fun h => absurd h (by decide)) (fun _ => ?_)
  refine lv_aload_n hx hb dJ0_indexOf_7cf53_7 rfl (lv_at hl 0 rfl) ?_
  refine vk_getf hx hb (hE.1.1.1 2 (by decide)).2.2.1 hS hown wd0 (fun _ h9 => h9) dJ0_indexOf_7cf53_8 ?_
  refine sj_v (y := .ref (ad (5 + 2))) rfl ?_
  refine lv_iload_n hx hb dJ0_indexOf_7cf53_11 rfl (lv_at hl 1 rfl) ?_
  refine lv_iload_n hx hb dJ0_indexOf_7cf53_12 rfl (lv_at hl 2 rfl) ?_
  refine lv_aload_n hx hb dJ0_indexOf_7cf53_13 rfl (lv_at hl 0 rfl) ?_
  refine x_calli (va_runV (As := []) (rest := [.int 0, .int x, .ref (ad (5 + 2))]) ⟨hx, hb, hml, hown, hts⟩ (k_length_2 l D g ka ad i r L d  hO hR H.size ) (cwV 0 hts gJ0_indexOf_7cf53_J0_length_8abf5 rfl rfl rfl (by decide +kernel) ⟨(Nat.le_of_ble_eq_true rfl), (Nat.le_of_ble_eq_true rfl)⟩) (x_preS2 (n := 2) hE.1.1 (by decide) hH hK hS gxb (gxw hE hS (x_F hH hS hA))) rfl rfl hl.1 rfl (lv_room (Nat.le_of_ble_eq_true rfl)) dJ0_indexOf_7cf53_14 ⟨(Nat.le_of_ble_eq_true rfl), (Nat.le_of_ble_eq_true rfl)⟩) hH hS hA rfl rfl (fun r_6 _ H locs hw_7 hH hS => ?_)
  have hr_9 := hw_7
  have hr_9 : (5 : Int) ≤ r_6.toInt ∧ r_6.toInt ≤ 5 := hr_9
  obtain rfl : r_6 = 5 := p_eq rfl (show (5 : Int32).toInt = 5 from rfl) (by omega)
  have hl_10 : (0 : Int32).toInt = 0 := rfl
  have hl_11 : (5 : Int32).toInt = 5 := rfl
  refine x_calli (va_runS (As := [.ref (ad (5 + 2)), .int x, .int 0, .int 5]) (rest := []) ⟨hx, hb, hml, hown, hts⟩ (k_indexOfL_2 l D g ka ad i r L d x hO hR H.size ) (va_cwS 4 hts gJ0_indexOf_7cf53_J1_indexOf_4cfef rfl rfl rfl (by decide +kernel) ⟨(Nat.le_of_ble_eq_true rfl), (Nat.le_of_ble_eq_true rfl)⟩) (x_preS hH hK gxb (gxw hE hS (x_F hH hS hA))) rfl rfl hl.1 rfl (lv_room (Nat.le_of_ble_eq_true rfl)) dJ0_indexOf_7cf53_17 ⟨(Nat.le_of_ble_eq_true rfl), (Nat.le_of_ble_eq_true rfl)⟩) hH hS hA rfl rfl (fun r_12 _ H locs hw_13 hH hS => ?_)
  obtain ⟨hr_15, he_16⟩ := hw_13
  have hr_15 : (-1 : Int) ≤ r_12.toInt ∧ r_12.toInt ≤ 4 := hr_15
  refine lv_goto (tgt := 36) hx hb dJ0_indexOf_7cf53_20 (by decide) ?_
  exact sj_zret hx hb hr hlocks rfl hS () ⟨⟨by omega, by omega⟩, (by omega)⟩ hH (sj_Knil hK) (Nat.le_of_ble_eq_true rfl) (Nat.le_of_ble_eq_true rfl) dJ0_indexOf_7cf53_36
set_option maxHeartbeats 2000000 in
set_option maxRecDepth 100000 in
theorem k_indexOf_2 (l : Launch) (D : va_G) (g : Nat → Nat) (ka : Nat → ClassId) (ad : Nat → Nat) (i : Nat → Nat → Int32) (r : Nat → Nat → Nat) (L : Nat → Nat → Int64) (d : Nat → Nat → UInt64) (x : Int32) (hO : OkI i) (hR : RS r) (sz : Nat)  : Met l yJ0_indexOf_0f7a4 wsJ0_indexOf_0f7a4 ({ frames := 3, cells := 0, slots := 0, locals := 75 }) (va_Pc [.ref (ad 2), .int x] (sj_B D (hwc g ka i r L d) (hT ka) sz (gx ad (va_A (hwc g ka i r L d) sz)))) (sj_Qi (S := Unit) D (fun v u => ((-1 : Int) ≤ v.toInt ∧ v.toInt ≤ 4) ∧ ((x.toInt = 70 ∧ v.toInt = 0) ∨ (x.toInt = 82 ∧ v.toInt = 1) ∨ (x.toInt = 66 ∧ v.toInt = 2) ∨ (x.toInt = 83 ∧ v.toInt = 3) ∨ (x.toInt = 69 ∧ v.toInt = 4) ∨ (x.toInt ≠ 70 ∧ x.toInt ≠ 82 ∧ x.toInt ≠ 66 ∧ x.toInt ≠ 83 ∧ x.toInt ≠ 69 ∧ v.toInt = -1))) (fun _ => hwc g ka i r L d) (fun _ => []) (va_A (hwc g ka i r L d) sz)) 0 0 (va_A (hwc g ka i r L d) sz) := by
  refine x_met (Ex := gx ad) (cc := cJ0_indexOf_0f7a4) (maxL := 2) (ret := (some .int)) (by decide) rfl (Nat.le_of_ble_eq_true rfl) ?_
  intro p e s m below meth c A ls hx hb hr hml hts hown hlocks hA hS hH hK hE hl
  have hown : s.vm.findClass RJ0 = some m.cls := hown
  have hl : lv_has ls 2 [(0, .ref (ad 2)), (1, .int x)] := hl
  have hK : va_K D vwCl (hT ka) s := hK
  have hg_1 := s_rng x
  refine lv_aload_n hx hb dJ0_indexOf_0f7a4_0 rfl (lv_at hl 0 rfl) ?_
  refine lv_iload_n hx hb dJ0_indexOf_0f7a4_1 rfl (lv_at hl 1 rfl) ?_
  refine lv_iconst (v := 0) hx hb dJ0_indexOf_0f7a4_2 (by decide) ?_
  have hl_2 : (0 : Int32).toInt = 0 := rfl
  refine x_calli (va_runV (As := [.int x, .int 0]) (rest := []) ⟨hx, hb, hml, hown, hts⟩ (k_indexOf2_2 l D g ka ad i r L d x hO hR s.heap.size ) (cwV 2 hts gJ0_indexOf_0f7a4_J0_indexOf_7cf53 rfl rfl rfl (by decide +kernel) ⟨(Nat.le_of_ble_eq_true rfl), (Nat.le_of_ble_eq_true rfl)⟩) (x_preS2 (n := 2) hE.1.1 (by decide) hH hK hS gxb (gxw hE hS (x_F hH hS hA))) rfl rfl hl.1 rfl (lv_room (Nat.le_of_ble_eq_true rfl)) dJ0_indexOf_0f7a4_3 ⟨(Nat.le_of_ble_eq_true rfl), (Nat.le_of_ble_eq_true rfl)⟩) hH hS hA rfl rfl (fun r_3 _ H locs hw_4 hH hS => ?_)
  obtain ⟨hr_6, he_7⟩ := hw_4
  have hr_6 : (-1 : Int) ≤ r_3.toInt ∧ r_3.toInt ≤ 4 := hr_6
  exact sj_zret hx hb hr hlocks rfl hS () ⟨⟨by omega, by omega⟩, (by omega)⟩ hH (sj_Knil hK) (Nat.le_of_ble_eq_true rfl) (Nat.le_of_ble_eq_true rfl) dJ0_indexOf_0f7a4_6
set_option maxHeartbeats 2000000 in
set_option maxRecDepth 100000 in
theorem k_indexOfChar_3 (l : Launch) (D : va_G) (g : Nat → Nat) (ka : Nat → ClassId) (ad : Nat → Nat) (i : Nat → Nat → Int32) (r : Nat → Nat → Nat) (L : Nat → Nat → Int64) (d : Nat → Nat → UInt64) (x : Int32) (hO : OkI i) (hR : RS r) (sz : Nat) (h0 : 0 ≤ x.toInt) (h1 : x.toInt ≤ 255) : Met l yJ1_indexOfChar_4cfef wsJ1_indexOfChar_4cfef ({ frames := 0, cells := 0, slots := 0, locals := 0 }) (va_Pc [.ref (ad (5 + 3)), .int x, .int 0, .int 5] (sj_B D (hwc g ka i r L d) (hT ka) sz (gx ad (va_A (hwc g ka i r L d) sz)))) (sj_Qi (S := Unit) D (fun v u => ((-1 : Int) ≤ v.toInt ∧ v.toInt ≤ 4) ∧ ((x.toInt = 68 ∧ v.toInt = 0) ∨ (x.toInt = 78 ∧ v.toInt = 1) ∨ (x.toInt = 90 ∧ v.toInt = 2) ∨ (x.toInt = 85 ∧ v.toInt = 3) ∨ (x.toInt = 42 ∧ v.toInt = 4) ∨ (x.toInt ≠ 68 ∧ x.toInt ≠ 78 ∧ x.toInt ≠ 90 ∧ x.toInt ≠ 85 ∧ x.toInt ≠ 42 ∧ v.toInt = -1))) (fun _ => hwc g ka i r L d) (fun _ => []) (va_A (hwc g ka i r L d) sz)) 0 0 (va_A (hwc g ka i r L d) sz) := by
  refine x_met (Ex := gx ad) (cc := cJ1_indexOfChar_4cfef) (maxL := 6) (ret := (some .int)) (by decide) rfl (Nat.le_of_ble_eq_true rfl) ?_
  intro p e s m below meth c A ls hx hb hr hml hts hown hlocks hA hS hH hK hE hl
  have hown : s.vm.findClass RJ1 = some m.cls := hown
  have hl : lv_has ls 6 [(0, .ref (ad (5 + 3))), (1, .int x), (2, .int 0), (3, .int 5)] := hl
  have hK : va_K D vwCl (hT ka) s := hK
  have hg_1 := s_rng x
  refine lv_iload_n hx hb dJ1_indexOfChar_4cfef_0 rfl (lv_at hl 1 rfl) ?_
  refine lv_i2b hx hb dJ1_indexOfChar_4cfef_1 rfl ?_
  refine lv_topi (fun z_2 ez_2 => ?_)
  have hz_2 := s_i2b ez_2 (by omega) (by omega)
  refine lv_istore (lv' := [(4, .int z_2), (0, .ref (ad (5 + 3))), (1, .int x), (2, .int 0), (3, .int 5)]) hx hb dJ1_indexOfChar_4cfef_2 hl (by decide) rfl (fun ls hl => ?_)
  refine lv_iload_n hx hb dJ1_indexOfChar_4cfef_4 rfl (lv_at hl 3 rfl) ?_
  refine lv_istore (lv' := [(5, .int 0), (4, .int z_2), (0, .ref (ad (5 + 3))), (1, .int x), (2, .int 0), (3, .int 5)]) hx hb dJ1_indexOfChar_4cfef_5 hl (by decide) rfl (fun ls hl => ?_)
  refine lv_iload hx hb dJ1_indexOfChar_4cfef_7 (lv_at hl 0 rfl) ?_
  refine lv_iload_n hx hb dJ1_indexOfChar_4cfef_9 rfl (lv_at hl 5 rfl) ?_
  refine lv_icmp_ge (tgt := 31) hx hb dJ1_indexOfChar_4cfef_10 (by decide) (fun h => absurd h (by decide)) (fun _ => ?_)
  refine lv_aload_n hx hb dJ1_indexOfChar_4cfef_13 rfl (lv_at hl 2 rfl) ?_
  refine lv_iload hx hb dJ1_indexOfChar_4cfef_14 (lv_at hl 0 rfl) ?_
  refine va_tb (v := .int 68) hx hb (hE.1.1.1 3 (by decide)).2.2.2 hS (sj_vin (by decide) (by decide)) rfl dJ1_indexOfChar_4cfef_16 ?_
  refine lv_iload hx hb dJ1_indexOfChar_4cfef_17 (lv_at hl 1 rfl) ?_
  refine lv_icmp_ne (tgt := 25) hx hb dJ1_indexOfChar_4cfef_19 (by decide) (fun c_3 => ?_) (fun c_3 => ?_)
  · skip
    have h_4 := s_ne (show (68 : Int32).toInt = 68 from rfl) (rfl : z_2.toInt = _) c_3
    refine lv_iinc (v := 1) (lv' := [(5, .int 1), (4, .int z_2), (0, .ref (ad (5 + 3))), (1, .int x), (2, .int 0), (3, .int 5)]) hx hb dJ1_indexOfChar_4cfef_25 hl (k := 0) rfl (by decide) (by decide) rfl (fun ls hl => ?_)
    refine lv_goto (tgt := 7) hx hb dJ1_indexOfChar_4cfef_28 (by decide) ?_
    refine lv_iload hx hb dJ1_indexOfChar_4cfef_7 (lv_at hl 0 rfl) ?_
    refine lv_iload_n hx hb dJ1_indexOfChar_4cfef_9 rfl (lv_at hl 5 rfl) ?_
    refine lv_icmp_ge (tgt := 31) hx hb dJ1_indexOfChar_4cfef_10 (by decide) (fun h => absurd h (by decide)) (fun _ => ?_)
    refine lv_aload_n hx hb dJ1_indexOfChar_4cfef_13 rfl (lv_at hl 2 rfl) ?_
    refine lv_iload hx hb dJ1_indexOfChar_4cfef_14 (lv_at hl 0 rfl) ?_
    refine va_tb (v := .int 78) hx hb (hE.1.1.1 3 (by decide)).2.2.2 hS (sj_vin (by decide) (by decide)) rfl dJ1_indexOfChar_4cfef_16 ?_
    refine lv_iload hx hb dJ1_indexOfChar_4cfef_17 (lv_at hl 1 rfl) ?_
    refine lv_icmp_ne (tgt := 25) hx hb dJ1_indexOfChar_4cfef_19 (by decide) (fun c_5 => ?_) (fun c_5 => ?_)
    · skip
      have h_6 := s_ne (show (78 : Int32).toInt = 78 from rfl) (rfl : z_2.toInt = _) c_5
      refine lv_iinc (v := 2) (lv' := [(5, .int 2), (4, .int z_2), (0, .ref (ad (5 + 3))), (1, .int x), (2, .int 0), (3, .int 5)]) hx hb dJ1_indexOfChar_4cfef_25 hl (k := 0) rfl (by decide) (by decide) rfl (fun ls hl => ?_)
      refine lv_goto (tgt := 7) hx hb dJ1_indexOfChar_4cfef_28 (by decide) ?_
      refine lv_iload hx hb dJ1_indexOfChar_4cfef_7 (lv_at hl 0 rfl) ?_
      refine lv_iload_n hx hb dJ1_indexOfChar_4cfef_9 rfl (lv_at hl 5 rfl) ?_
      refine lv_icmp_ge (tgt := 31) hx hb dJ1_indexOfChar_4cfef_10 (by decide) (fun h => absurd h (by decide)) (fun _ => ?_)
      refine lv_aload_n hx hb dJ1_indexOfChar_4cfef_13 rfl (lv_at hl 2 rfl) ?_
      refine lv_iload hx hb dJ1_indexOfChar_4cfef_14 (lv_at hl 0 rfl) ?_
      refine va_tb (v := .int 90) hx hb (hE.1.1.1 3 (by decide)).2.2.2 hS (sj_vin (by decide) (by decide)) rfl dJ1_indexOfChar_4cfef_16 ?_
      refine lv_iload hx hb dJ1_indexOfChar_4cfef_17 (lv_at hl 1 rfl) ?_
      refine lv_icmp_ne (tgt := 25) hx hb dJ1_indexOfChar_4cfef_19 (by decide) (fun c_7 => ?_) (fun c_7 => ?_)
      · skip
        have h_8 := s_ne (show (90 : Int32).toInt = 90 from rfl) (rfl : z_2.toInt = _) c_7
        refine lv_iinc (v := 3) (lv' := [(5, .int 3), (4, .int z_2), (0, .ref (ad (5 + 3))), (1, .int x), (2, .int 0), (3, .int 5)]) hx hb dJ1_indexOfChar_4cfef_25 hl (k := 0) rfl (by decide) (by decide) rfl (fun ls hl => ?_)
        refine lv_goto (tgt := 7) hx hb dJ1_indexOfChar_4cfef_28 (by decide) ?_
        refine lv_iload hx hb dJ1_indexOfChar_4cfef_7 (lv_at hl 0 rfl) ?_
        refine lv_iload_n hx hb dJ1_indexOfChar_4cfef_9 rfl (lv_at hl 5 rfl) ?_
        refine lv_icmp_ge (tgt := 31) hx hb dJ1_indexOfChar_4cfef_10 (by decide) (fun h => absurd h (by decide)) (fun _ => ?_)
        refine lv_aload_n hx hb dJ1_indexOfChar_4cfef_13 rfl (lv_at hl 2 rfl) ?_
        refine lv_iload hx hb dJ1_indexOfChar_4cfef_14 (lv_at hl 0 rfl) ?_
        refine va_tb (v := .int 85) hx hb (hE.1.1.1 3 (by decide)).2.2.2 hS (sj_vin (by decide) (by decide)) rfl dJ1_indexOfChar_4cfef_16 ?_
        refine lv_iload hx hb dJ1_indexOfChar_4cfef_17 (lv_at hl 1 rfl) ?_
        refine lv_icmp_ne (tgt := 25) hx hb dJ1_indexOfChar_4cfef_19 (by decide) (fun c_9 => ?_) (fun c_9 => ?_)
        · skip
          have h_10 := s_ne (show (85 : Int32).toInt = 85 from rfl) (rfl : z_2.toInt = _) c_9
          refine lv_iinc (v := 4) (lv' := [(5, .int 4), (4, .int z_2), (0, .ref (ad (5 + 3))), (1, .int x), (2, .int 0), (3, .int 5)]) hx hb dJ1_indexOfChar_4cfef_25 hl (k := 0) rfl (by decide) (by decide) rfl (fun ls hl => ?_)
          refine lv_goto (tgt := 7) hx hb dJ1_indexOfChar_4cfef_28 (by decide) ?_
          refine lv_iload hx hb dJ1_indexOfChar_4cfef_7 (lv_at hl 0 rfl) ?_
          refine lv_iload_n hx hb dJ1_indexOfChar_4cfef_9 rfl (lv_at hl 5 rfl) ?_
          refine lv_icmp_ge (tgt := 31) hx hb dJ1_indexOfChar_4cfef_10 (by decide) (fun h => absurd h (by decide)) (fun _ => ?_)
          refine lv_aload_n hx hb dJ1_indexOfChar_4cfef_13 rfl (lv_at hl 2 rfl) ?_
          refine lv_iload hx hb dJ1_indexOfChar_4cfef_14 (lv_at hl 0 rfl) ?_
          refine va_tb (v := .int 42) hx hb (hE.1.1.1 3 (by decide)).2.2.2 hS (sj_vin (by decide) (by decide)) rfl dJ1_indexOfChar_4cfef_16 ?_
          refine lv_iload hx hb dJ1_indexOfChar_4cfef_17 (lv_at hl 1 rfl) ?_
          refine lv_icmp_ne (tgt := 25) hx hb dJ1_indexOfChar_4cfef_19 (by decide) (fun c_11 => ?_) (fun c_11 => ?_)
          · skip
            have h_12 := s_ne (show (42 : Int32).toInt = 42 from rfl) (rfl : z_2.toInt = _) c_11
            refine lv_iinc (v := 5) (lv' := [(5, .int 5), (4, .int z_2), (0, .ref (ad (5 + 3))), (1, .int x), (2, .int 0), (3, .int 5)]) hx hb dJ1_indexOfChar_4cfef_25 hl (k := 0) rfl (by decide) (by decide) rfl (fun ls hl => ?_)
            refine lv_goto (tgt := 7) hx hb dJ1_indexOfChar_4cfef_28 (by decide) ?_
            refine lv_iload hx hb dJ1_indexOfChar_4cfef_7 (lv_at hl 0 rfl) ?_
            refine lv_iload_n hx hb dJ1_indexOfChar_4cfef_9 rfl (lv_at hl 5 rfl) ?_
            refine lv_icmp_ge (tgt := 31) hx hb dJ1_indexOfChar_4cfef_10 (by decide) (fun _ => ?_) (fun h => absurd (by decide) h)
            refine lv_iconst (v := (-1)) hx hb dJ1_indexOfChar_4cfef_31 (by decide) ?_
            have hlv_13 : ((-1) : Int32).toInt = -1 := rfl
            exact sj_zret hx hb hr hlocks rfl hS () ⟨⟨by decide, by decide⟩, (by have h9 : ((-1) : Int32).toInt = -1 := rfl; omega)⟩ hH (sj_Knil hK) (Nat.le_of_ble_eq_true rfl) (Nat.le_of_ble_eq_true rfl) dJ1_indexOfChar_4cfef_32
          · skip
            have h_14 := s_eq (show (42 : Int32).toInt = 42 from rfl) (rfl : z_2.toInt = _) c_11
            refine lv_iload hx hb dJ1_indexOfChar_4cfef_22 (lv_at hl 0 rfl) ?_
            have hlv_15 : (4 : Int32).toInt = 4 := rfl
            exact sj_zret hx hb hr hlocks rfl hS () ⟨⟨by decide, by decide⟩, (by have h9 : (4 : Int32).toInt = 4 := rfl; omega)⟩ hH (sj_Knil hK) (Nat.le_of_ble_eq_true rfl) (Nat.le_of_ble_eq_true rfl) dJ1_indexOfChar_4cfef_24
        · skip
          have h_16 := s_eq (show (85 : Int32).toInt = 85 from rfl) (rfl : z_2.toInt = _) c_9
          refine lv_iload hx hb dJ1_indexOfChar_4cfef_22 (lv_at hl 0 rfl) ?_
          have hlv_17 : (3 : Int32).toInt = 3 := rfl
          exact sj_zret hx hb hr hlocks rfl hS () ⟨⟨by decide, by decide⟩, (by have h9 : (3 : Int32).toInt = 3 := rfl; omega)⟩ hH (sj_Knil hK) (Nat.le_of_ble_eq_true rfl) (Nat.le_of_ble_eq_true rfl) dJ1_indexOfChar_4cfef_24
      · skip
        have h_18 := s_eq (show (90 : Int32).toInt = 90 from rfl) (rfl : z_2.toInt = _) c_7
        refine lv_iload hx hb dJ1_indexOfChar_4cfef_22 (lv_at hl 0 rfl) ?_
        have hlv_19 : (2 : Int32).toInt = 2 := rfl
        exact sj_zret hx hb hr hlocks rfl hS () ⟨⟨by decide, by decide⟩, (by have h9 : (2 : Int32).toInt = 2 := rfl; omega)⟩ hH (sj_Knil hK) (Nat.le_of_ble_eq_true rfl) (Nat.le_of_ble_eq_true rfl) dJ1_indexOfChar_4cfef_24
    · skip
      have h_20 := s_eq (show (78 : Int32).toInt = 78 from rfl) (rfl : z_2.toInt = _) c_5
      refine lv_iload hx hb dJ1_indexOfChar_4cfef_22 (lv_at hl 0 rfl) ?_
      have hlv_21 : (1 : Int32).toInt = 1 := rfl
      exact sj_zret hx hb hr hlocks rfl hS () ⟨⟨by decide, by decide⟩, (by have h9 : (1 : Int32).toInt = 1 := rfl; omega)⟩ hH (sj_Knil hK) (Nat.le_of_ble_eq_true rfl) (Nat.le_of_ble_eq_true rfl) dJ1_indexOfChar_4cfef_24
  · skip
    have h_22 := s_eq (show (68 : Int32).toInt = 68 from rfl) (rfl : z_2.toInt = _) c_3
    refine lv_iload hx hb dJ1_indexOfChar_4cfef_22 (lv_at hl 0 rfl) ?_
    have hlv_23 : (0 : Int32).toInt = 0 := rfl
    exact sj_zret hx hb hr hlocks rfl hS () ⟨⟨by decide, by decide⟩, (by have h9 : (0 : Int32).toInt = 0 := rfl; omega)⟩ hH (sj_Knil hK) (Nat.le_of_ble_eq_true rfl) (Nat.le_of_ble_eq_true rfl) dJ1_indexOfChar_4cfef_24
set_option maxHeartbeats 2000000 in
set_option maxRecDepth 100000 in
theorem k_indexOfL_3 (l : Launch) (D : va_G) (g : Nat → Nat) (ka : Nat → ClassId) (ad : Nat → Nat) (i : Nat → Nat → Int32) (r : Nat → Nat → Nat) (L : Nat → Nat → Int64) (d : Nat → Nat → UInt64) (x : Int32) (hO : OkI i) (hR : RS r) (sz : Nat)  : Met l yJ1_indexOf_4cfef wsJ1_indexOf_4cfef ({ frames := 1, cells := 0, slots := 0, locals := 30 }) (va_Pc [.ref (ad (5 + 3)), .int x, .int 0, .int 5] (sj_B D (hwc g ka i r L d) (hT ka) sz (gx ad (va_A (hwc g ka i r L d) sz)))) (sj_Qi (S := Unit) D (fun v u => ((-1 : Int) ≤ v.toInt ∧ v.toInt ≤ 4) ∧ ((x.toInt = 68 ∧ v.toInt = 0) ∨ (x.toInt = 78 ∧ v.toInt = 1) ∨ (x.toInt = 90 ∧ v.toInt = 2) ∨ (x.toInt = 85 ∧ v.toInt = 3) ∨ (x.toInt = 42 ∧ v.toInt = 4) ∨ (x.toInt ≠ 68 ∧ x.toInt ≠ 78 ∧ x.toInt ≠ 90 ∧ x.toInt ≠ 85 ∧ x.toInt ≠ 42 ∧ v.toInt = -1))) (fun _ => hwc g ka i r L d) (fun _ => []) (va_A (hwc g ka i r L d) sz)) 0 0 (va_A (hwc g ka i r L d) sz) := by
  refine x_met (Ex := gx ad) (cc := cJ1_indexOf_4cfef) (maxL := 4) (ret := (some .int)) (by decide) rfl (Nat.le_of_ble_eq_true rfl) ?_
  intro p e s m below meth c A ls hx hb hr hml hts hown hlocks hA hS hH hK hE hl
  have hown : s.vm.findClass RJ1 = some m.cls := hown
  have wd0 := hts (.methodLink RJ1 92 Lib.Math.max.name) (List.mem_cons_of_mem _ lm0)
  have wd1 := hts (.static Lib.Math.max.name) (List.mem_cons_of_mem _ lm1)
  have wd2 := hts (.initialized "java/lang/Math") (List.mem_cons_of_mem _ lm2)
  have wd3 := hts (.code Lib.Math.max.name Lib.Math.max.code 2 (some .int)) (List.mem_cons_of_mem _ lm3)
  have wd4 := hts (.methodLink RJ1 38 Lib.Math.min.name) (List.mem_cons_of_mem _ lm4)
  have wd5 := hts (.static Lib.Math.min.name) (List.mem_cons_of_mem _ lm5)
  have wd6 := hts (.code Lib.Math.min.name Lib.Math.min.code 2 (some .int)) (List.mem_cons_of_mem _ lm6)
  have hl : lv_has ls 4 [(0, .ref (ad (5 + 3))), (1, .int x), (2, .int 0), (3, .int 5)] := hl
  have hK : va_K D vwCl (hT ka) s := hK
  have hg_1 := s_rng x
  refine lv_iload_n hx hb dJ1_indexOf_4cfef_0 rfl (lv_at hl 1 rfl) ?_
  refine x_calli (va_runS (As := [.int x]) (rest := []) ⟨hx, hb, hml, hown, hts⟩ (k_canEncode l D g ka ad i r L d x hO hR s.heap.size ) (cwS 1 hts gJ1_indexOf_4cfef_J1_canEncode_9a6ad rfl rfl rfl (by decide +kernel) ⟨(Nat.le_of_ble_eq_true rfl), (Nat.le_of_ble_eq_true rfl)⟩) (x_preS hH hK gxb (gxw hE hS (x_F hH hS hA))) rfl rfl hl.1 rfl (lv_room (Nat.le_of_ble_eq_true rfl)) dJ1_indexOf_4cfef_1 ⟨(Nat.le_of_ble_eq_true rfl), (Nat.le_of_ble_eq_true rfl)⟩) hH hS hA rfl rfl (fun r_2 _ H locs hw_3 hH hS => ?_)
  obtain ⟨hr_5, he_6⟩ := hw_3
  have hr_5 : (0 : Int) ≤ r_2.toInt ∧ r_2.toInt ≤ 1 := hr_5
  refine lv_if_ne (tgt := 9) hx hb dJ1_indexOf_4cfef_4 (by decide) (fun c_7 => ?_) (fun c_7 => ?_)
  · skip
    have h_8 := s_ne (rfl : r_2.toInt = _) (show (0 : Int32).toInt = 0 from rfl) c_7
    refine lv_iload_n hx hb dJ1_indexOf_4cfef_9 rfl (lv_at hl 2 rfl) ?_
    refine lv_iconst (v := 0) hx hb dJ1_indexOf_4cfef_10 (by decide) ?_
    refine va_mmax hx hb (hml.trans hl.1.symm) hown wd0 wd1 wd2 wd3 (Nat.le_of_ble_eq_true rfl) (Nat.le_of_ble_eq_true rfl) (Nat.le_of_ble_eq_true rfl) (Nat.le_of_ble_eq_true rfl) dJ1_indexOf_4cfef_11 ?_
    refine sj_i (y := 0) (by decide) ?_
    refine lv_istore_n (lv' := [(2, .int 0), (0, .ref (ad (5 + 3))), (1, .int x), (3, .int 5)]) hx hb dJ1_indexOf_4cfef_14 rfl hl (by decide) rfl (fun ls hl => ?_)
    refine lv_iload_n hx hb dJ1_indexOf_4cfef_15 rfl (lv_at hl 3 rfl) ?_
    refine lv_aload_n hx hb dJ1_indexOf_4cfef_16 rfl (lv_at hl 1 rfl) ?_
    refine va_tlen (v := 5) hx hb (hE.1.1.1 3 (by decide)).2.2.2 hS rfl dJ1_indexOf_4cfef_17 ?_
    refine va_mmin hx hb (hml.trans hl.1.symm) hown wd4 wd5 wd2 wd6 (Nat.le_of_ble_eq_true rfl) (Nat.le_of_ble_eq_true rfl) (Nat.le_of_ble_eq_true rfl) (Nat.le_of_ble_eq_true rfl) dJ1_indexOf_4cfef_18 ?_
    refine sj_i (y := 5) (by decide) ?_
    refine lv_istore_n (lv' := [(3, .int 5), (2, .int 0), (0, .ref (ad (5 + 3))), (1, .int x)]) hx hb dJ1_indexOf_4cfef_21 rfl hl (by decide) rfl (fun ls hl => ?_)
    refine lv_iload_n hx hb dJ1_indexOf_4cfef_22 rfl (lv_at hl 1 rfl) ?_
    refine lv_iload_n hx hb dJ1_indexOf_4cfef_23 rfl (lv_at hl 0 rfl) ?_
    refine lv_icmp_lt (tgt := 29) hx hb dJ1_indexOf_4cfef_24 (by decide) (fun _ => ?_) (fun h => absurd (by decide) h)
    refine lv_aload_n hx hb dJ1_indexOf_4cfef_29 rfl (lv_at hl 2 rfl) ?_
    refine lv_iload_n hx hb dJ1_indexOf_4cfef_30 rfl (lv_at hl 3 rfl) ?_
    refine lv_iload_n hx hb dJ1_indexOf_4cfef_31 rfl (lv_at hl 1 rfl) ?_
    refine lv_iload_n hx hb dJ1_indexOf_4cfef_32 rfl (lv_at hl 0 rfl) ?_
    have hl_9 : (0 : Int32).toInt = 0 := rfl
    have hl_10 : (5 : Int32).toInt = 5 := rfl
    refine x_calli (va_runS (As := [.ref (ad (5 + 3)), .int x, .int 0, .int 5]) (rest := []) ⟨hx, hb, hml, hown, hts⟩ (k_indexOfChar_3 l D g ka ad i r L d x hO hR H.size (by first | omega | decide) (by first | omega | decide)) (cwS 4 hts gJ1_indexOf_4cfef_J1_indexOfChar_4cfef rfl rfl rfl (by decide +kernel) ⟨(Nat.le_of_ble_eq_true rfl), (Nat.le_of_ble_eq_true rfl)⟩) (x_preS hH hK gxb (gxw hE hS (x_F hH hS hA))) rfl rfl hl.1 rfl (lv_room (Nat.le_of_ble_eq_true rfl)) dJ1_indexOf_4cfef_33 ⟨(Nat.le_of_ble_eq_true rfl), (Nat.le_of_ble_eq_true rfl)⟩) hH hS hA rfl rfl (fun r_11 _ H locs hw_12 hH hS => ?_)
    obtain ⟨hr_14, he_15⟩ := hw_12
    have hr_14 : (-1 : Int) ≤ r_11.toInt ∧ r_11.toInt ≤ 4 := hr_14
    exact sj_zret hx hb hr hlocks rfl hS () ⟨⟨by omega, by omega⟩, (by omega)⟩ hH (sj_Knil hK) (Nat.le_of_ble_eq_true rfl) (Nat.le_of_ble_eq_true rfl) dJ1_indexOf_4cfef_36
  · skip
    have h_16 := s_eq (rfl : r_2.toInt = _) (show (0 : Int32).toInt = 0 from rfl) c_7
    refine lv_iconst (v := (-1)) hx hb dJ1_indexOf_4cfef_7 (by decide) ?_
    have hlv_17 : ((-1) : Int32).toInt = -1 := rfl
    exact sj_zret hx hb hr hlocks rfl hS () ⟨⟨by decide, by decide⟩, (by have h9 : ((-1) : Int32).toInt = -1 := rfl; omega)⟩ hH (sj_Knil hK) (Nat.le_of_ble_eq_true rfl) (Nat.le_of_ble_eq_true rfl) dJ1_indexOf_4cfef_8
set_option maxHeartbeats 2000000 in
set_option maxRecDepth 100000 in
theorem k_length_3 (l : Launch) (D : va_G) (g : Nat → Nat) (ka : Nat → ClassId) (ad : Nat → Nat) (i : Nat → Nat → Int32) (r : Nat → Nat → Nat) (L : Nat → Nat → Int64) (d : Nat → Nat → UInt64)  (hO : OkI i) (hR : RS r) (sz : Nat)  : Met l yJ0_length_8abf5 wsJ0_length_8abf5 ({ frames := 1, cells := 0, slots := 0, locals := 20 }) (va_Pc [.ref (ad 3)] (sj_B D (hwc g ka i r L d) (hT ka) sz (gx ad (va_A (hwc g ka i r L d) sz)))) (sj_Qi (S := Unit) D (fun v u => ((5 : Int) ≤ v.toInt ∧ v.toInt ≤ 5)) (fun _ => hwc g ka i r L d) (fun _ => []) (va_A (hwc g ka i r L d) sz)) 0 0 (va_A (hwc g ka i r L d) sz) := by
  refine x_met (Ex := gx ad) (cc := cJ0_length_8abf5) (maxL := 1) (ret := (some .int)) (by decide) rfl (Nat.le_of_ble_eq_true rfl) ?_
  intro p e s m below meth c A ls hx hb hr hml hts hown hlocks hA hS hH hK hE hl
  have hown : s.vm.findClass RJ0 = some m.cls := hown
  have wd0 := hts (.fieldLink RJ0 9 "java/lang/String" "value" "[B") (List.mem_cons_of_mem _ lm0)
  have hl : lv_has ls 1 [(0, .ref (ad 3))] := hl
  have hK : va_K D vwCl (hT ka) s := hK
  refine lv_aload_n hx hb dJ0_length_8abf5_0 rfl (lv_at hl 0 rfl) ?_
  refine vk_getf hx hb (hE.1.1.1 3 (by decide)).2.2.1 hS hown wd0 (fun _ h9 => h9) dJ0_length_8abf5_1 ?_
  refine sj_v (y := .ref (ad (5 + 3))) rfl ?_
  refine va_tlen (v := 5) hx hb (hE.1.1.1 3 (by decide)).2.2.2 hS rfl dJ0_length_8abf5_4 ?_
  refine lv_aload_n hx hb dJ0_length_8abf5_5 rfl (lv_at hl 0 rfl) ?_
  refine x_calli (va_runV (As := []) (rest := [.int 5]) ⟨hx, hb, hml, hown, hts⟩ (k_coder_3 l D g ka ad i r L d  hO hR s.heap.size ) (cwV 0 hts gJ0_length_8abf5_J0_coder_7d493 rfl rfl rfl (by decide +kernel) ⟨(Nat.le_of_ble_eq_true rfl), (Nat.le_of_ble_eq_true rfl)⟩) (x_preS2 (n := 3) hE.1.1 (by decide) hH hK hS gxb (gxw hE hS (x_F hH hS hA))) rfl rfl hl.1 rfl (lv_room (Nat.le_of_ble_eq_true rfl)) dJ0_length_8abf5_6 ⟨(Nat.le_of_ble_eq_true rfl), (Nat.le_of_ble_eq_true rfl)⟩) hH hS hA rfl rfl (fun r_1 _ H locs hw_2 hH hS => ?_)
  have hr_4 := hw_2
  have hr_4 : (0 : Int) ≤ r_1.toInt ∧ r_1.toInt ≤ 0 := hr_4
  obtain rfl : r_1 = 0 := p_eq rfl (show (0 : Int32).toInt = 0 from rfl) (by omega)
  refine lv_ishr hx hb dJ0_length_8abf5_9 ?_
  refine sj_i (y := 5) (by decide) ?_
  exact sj_zret hx hb hr hlocks rfl hS () ⟨by decide, by decide⟩ hH (sj_Knil hK) (Nat.le_of_ble_eq_true rfl) (Nat.le_of_ble_eq_true rfl) dJ0_length_8abf5_10
set_option maxHeartbeats 2000000 in
set_option maxRecDepth 100000 in
theorem k_indexOf2_3 (l : Launch) (D : va_G) (g : Nat → Nat) (ka : Nat → ClassId) (ad : Nat → Nat) (i : Nat → Nat → Int32) (r : Nat → Nat → Nat) (L : Nat → Nat → Int64) (d : Nat → Nat → UInt64) (x : Int32) (hO : OkI i) (hR : RS r) (sz : Nat)  : Met l yJ0_indexOf_7cf53 wsJ0_indexOf_7cf53 ({ frames := 2, cells := 0, slots := 0, locals := 53 }) (va_Pc [.ref (ad 3), .int x, .int 0] (sj_B D (hwc g ka i r L d) (hT ka) sz (gx ad (va_A (hwc g ka i r L d) sz)))) (sj_Qi (S := Unit) D (fun v u => ((-1 : Int) ≤ v.toInt ∧ v.toInt ≤ 4) ∧ ((x.toInt = 68 ∧ v.toInt = 0) ∨ (x.toInt = 78 ∧ v.toInt = 1) ∨ (x.toInt = 90 ∧ v.toInt = 2) ∨ (x.toInt = 85 ∧ v.toInt = 3) ∨ (x.toInt = 42 ∧ v.toInt = 4) ∨ (x.toInt ≠ 68 ∧ x.toInt ≠ 78 ∧ x.toInt ≠ 90 ∧ x.toInt ≠ 85 ∧ x.toInt ≠ 42 ∧ v.toInt = -1))) (fun _ => hwc g ka i r L d) (fun _ => []) (va_A (hwc g ka i r L d) sz)) 0 0 (va_A (hwc g ka i r L d) sz) := by
  refine x_met (Ex := gx ad) (cc := cJ0_indexOf_7cf53) (maxL := 3) (ret := (some .int)) (by decide) rfl (Nat.le_of_ble_eq_true rfl) ?_
  intro p e s m below meth c A ls hx hb hr hml hts hown hlocks hA hS hH hK hE hl
  have hown : s.vm.findClass RJ0 = some m.cls := hown
  have wd0 := hts (.fieldLink RJ0 9 "java/lang/String" "value" "[B") (List.mem_cons_of_mem _ (List.mem_append_left _ lm0))
  have hl : lv_has ls 3 [(0, .ref (ad 3)), (1, .int x), (2, .int 0)] := hl
  have hK : va_K D vwCl (hT ka) s := hK
  have hg_1 := s_rng x
  refine lv_aload_n hx hb dJ0_indexOf_7cf53_0 rfl (lv_at hl 0 rfl) ?_
  refine x_calli (va_runV (As := []) (rest := []) ⟨hx, hb, hml, hown, hts⟩ (k_isLatin1_3 l D g ka ad i r L d  hO hR s.heap.size ) (cwV 0 hts gJ0_indexOf_7cf53_J0_isLatin1_aae02 rfl rfl rfl (by decide +kernel) ⟨(Nat.le_of_ble_eq_true rfl), (Nat.le_of_ble_eq_true rfl)⟩) (x_preS2 (n := 3) hE.1.1 (by decide) hH hK hS gxb (gxw hE hS (x_F hH hS hA))) rfl rfl hl.1 rfl (lv_room (Nat.le_of_ble_eq_true rfl)) dJ0_indexOf_7cf53_1 ⟨(Nat.le_of_ble_eq_true rfl), (Nat.le_of_ble_eq_true rfl)⟩) hH hS hA rfl rfl (fun r_2 _ H locs hw_3 hH hS => ?_)
  have hr_5 := hw_3
  have hr_5 : (1 : Int) ≤ r_2.toInt ∧ r_2.toInt ≤ 1 := hr_5
  obtain rfl : r_2 = 1 := p_eq rfl (show (1 : Int32).toInt = 1 from rfl) (by omega)
  refine lv_if_eq (tgt := 23) hx hb dJ0_indexOf_7cf53_4 (by decide) (fun h => absurd h (by decide)) (fun _ => ?_)
  refine lv_aload_n hx hb dJ0_indexOf_7cf53_7 rfl (lv_at hl 0 rfl) ?_
  refine vk_getf hx hb (hE.1.1.1 3 (by decide)).2.2.1 hS hown wd0 (fun _ h9 => h9) dJ0_indexOf_7cf53_8 ?_
  refine sj_v (y := .ref (ad (5 + 3))) rfl ?_
  refine lv_iload_n hx hb dJ0_indexOf_7cf53_11 rfl (lv_at hl 1 rfl) ?_
  refine lv_iload_n hx hb dJ0_indexOf_7cf53_12 rfl (lv_at hl 2 rfl) ?_
  refine lv_aload_n hx hb dJ0_indexOf_7cf53_13 rfl (lv_at hl 0 rfl) ?_
  refine x_calli (va_runV (As := []) (rest := [.int 0, .int x, .ref (ad (5 + 3))]) ⟨hx, hb, hml, hown, hts⟩ (k_length_3 l D g ka ad i r L d  hO hR H.size ) (cwV 0 hts gJ0_indexOf_7cf53_J0_length_8abf5 rfl rfl rfl (by decide +kernel) ⟨(Nat.le_of_ble_eq_true rfl), (Nat.le_of_ble_eq_true rfl)⟩) (x_preS2 (n := 3) hE.1.1 (by decide) hH hK hS gxb (gxw hE hS (x_F hH hS hA))) rfl rfl hl.1 rfl (lv_room (Nat.le_of_ble_eq_true rfl)) dJ0_indexOf_7cf53_14 ⟨(Nat.le_of_ble_eq_true rfl), (Nat.le_of_ble_eq_true rfl)⟩) hH hS hA rfl rfl (fun r_6 _ H locs hw_7 hH hS => ?_)
  have hr_9 := hw_7
  have hr_9 : (5 : Int) ≤ r_6.toInt ∧ r_6.toInt ≤ 5 := hr_9
  obtain rfl : r_6 = 5 := p_eq rfl (show (5 : Int32).toInt = 5 from rfl) (by omega)
  have hl_10 : (0 : Int32).toInt = 0 := rfl
  have hl_11 : (5 : Int32).toInt = 5 := rfl
  refine x_calli (va_runS (As := [.ref (ad (5 + 3)), .int x, .int 0, .int 5]) (rest := []) ⟨hx, hb, hml, hown, hts⟩ (k_indexOfL_3 l D g ka ad i r L d x hO hR H.size ) (va_cwS 4 hts gJ0_indexOf_7cf53_J1_indexOf_4cfef rfl rfl rfl (by decide +kernel) ⟨(Nat.le_of_ble_eq_true rfl), (Nat.le_of_ble_eq_true rfl)⟩) (x_preS hH hK gxb (gxw hE hS (x_F hH hS hA))) rfl rfl hl.1 rfl (lv_room (Nat.le_of_ble_eq_true rfl)) dJ0_indexOf_7cf53_17 ⟨(Nat.le_of_ble_eq_true rfl), (Nat.le_of_ble_eq_true rfl)⟩) hH hS hA rfl rfl (fun r_12 _ H locs hw_13 hH hS => ?_)
  obtain ⟨hr_15, he_16⟩ := hw_13
  have hr_15 : (-1 : Int) ≤ r_12.toInt ∧ r_12.toInt ≤ 4 := hr_15
  refine lv_goto (tgt := 36) hx hb dJ0_indexOf_7cf53_20 (by decide) ?_
  exact sj_zret hx hb hr hlocks rfl hS () ⟨⟨by omega, by omega⟩, (by omega)⟩ hH (sj_Knil hK) (Nat.le_of_ble_eq_true rfl) (Nat.le_of_ble_eq_true rfl) dJ0_indexOf_7cf53_36
set_option maxHeartbeats 2000000 in
set_option maxRecDepth 100000 in
theorem k_indexOf_3 (l : Launch) (D : va_G) (g : Nat → Nat) (ka : Nat → ClassId) (ad : Nat → Nat) (i : Nat → Nat → Int32) (r : Nat → Nat → Nat) (L : Nat → Nat → Int64) (d : Nat → Nat → UInt64) (x : Int32) (hO : OkI i) (hR : RS r) (sz : Nat)  : Met l yJ0_indexOf_0f7a4 wsJ0_indexOf_0f7a4 ({ frames := 3, cells := 0, slots := 0, locals := 75 }) (va_Pc [.ref (ad 3), .int x] (sj_B D (hwc g ka i r L d) (hT ka) sz (gx ad (va_A (hwc g ka i r L d) sz)))) (sj_Qi (S := Unit) D (fun v u => ((-1 : Int) ≤ v.toInt ∧ v.toInt ≤ 4) ∧ ((x.toInt = 68 ∧ v.toInt = 0) ∨ (x.toInt = 78 ∧ v.toInt = 1) ∨ (x.toInt = 90 ∧ v.toInt = 2) ∨ (x.toInt = 85 ∧ v.toInt = 3) ∨ (x.toInt = 42 ∧ v.toInt = 4) ∨ (x.toInt ≠ 68 ∧ x.toInt ≠ 78 ∧ x.toInt ≠ 90 ∧ x.toInt ≠ 85 ∧ x.toInt ≠ 42 ∧ v.toInt = -1))) (fun _ => hwc g ka i r L d) (fun _ => []) (va_A (hwc g ka i r L d) sz)) 0 0 (va_A (hwc g ka i r L d) sz) := by
  refine x_met (Ex := gx ad) (cc := cJ0_indexOf_0f7a4) (maxL := 2) (ret := (some .int)) (by decide) rfl (Nat.le_of_ble_eq_true rfl) ?_
  intro p e s m below meth c A ls hx hb hr hml hts hown hlocks hA hS hH hK hE hl
  have hown : s.vm.findClass RJ0 = some m.cls := hown
  have hl : lv_has ls 2 [(0, .ref (ad 3)), (1, .int x)] := hl
  have hK : va_K D vwCl (hT ka) s := hK
  have hg_1 := s_rng x
  refine lv_aload_n hx hb dJ0_indexOf_0f7a4_0 rfl (lv_at hl 0 rfl) ?_
  refine lv_iload_n hx hb dJ0_indexOf_0f7a4_1 rfl (lv_at hl 1 rfl) ?_
  refine lv_iconst (v := 0) hx hb dJ0_indexOf_0f7a4_2 (by decide) ?_
  have hl_2 : (0 : Int32).toInt = 0 := rfl
  refine x_calli (va_runV (As := [.int x, .int 0]) (rest := []) ⟨hx, hb, hml, hown, hts⟩ (k_indexOf2_3 l D g ka ad i r L d x hO hR s.heap.size ) (cwV 2 hts gJ0_indexOf_0f7a4_J0_indexOf_7cf53 rfl rfl rfl (by decide +kernel) ⟨(Nat.le_of_ble_eq_true rfl), (Nat.le_of_ble_eq_true rfl)⟩) (x_preS2 (n := 3) hE.1.1 (by decide) hH hK hS gxb (gxw hE hS (x_F hH hS hA))) rfl rfl hl.1 rfl (lv_room (Nat.le_of_ble_eq_true rfl)) dJ0_indexOf_0f7a4_3 ⟨(Nat.le_of_ble_eq_true rfl), (Nat.le_of_ble_eq_true rfl)⟩) hH hS hA rfl rfl (fun r_3 _ H locs hw_4 hH hS => ?_)
  obtain ⟨hr_6, he_7⟩ := hw_4
  have hr_6 : (-1 : Int) ≤ r_3.toInt ∧ r_3.toInt ≤ 4 := hr_6
  exact sj_zret hx hb hr hlocks rfl hS () ⟨⟨by omega, by omega⟩, (by omega)⟩ hH (sj_Knil hK) (Nat.le_of_ble_eq_true rfl) (Nat.le_of_ble_eq_true rfl) dJ0_indexOf_0f7a4_6
set_option maxHeartbeats 2000000 in
set_option maxRecDepth 100000 in
theorem k_indexOfChar_4 (l : Launch) (D : va_G) (g : Nat → Nat) (ka : Nat → ClassId) (ad : Nat → Nat) (i : Nat → Nat → Int32) (r : Nat → Nat → Nat) (L : Nat → Nat → Int64) (d : Nat → Nat → UInt64) (x : Int32) (hO : OkI i) (hR : RS r) (sz : Nat) (h0 : 0 ≤ x.toInt) (h1 : x.toInt ≤ 255) : Met l yJ1_indexOfChar_4cfef wsJ1_indexOfChar_4cfef ({ frames := 0, cells := 0, slots := 0, locals := 0 }) (va_Pc [.ref (ad (5 + 4)), .int x, .int 0, .int 5] (sj_B D (hwc g ka i r L d) (hT ka) sz (gx ad (va_A (hwc g ka i r L d) sz)))) (sj_Qi (S := Unit) D (fun v u => ((-1 : Int) ≤ v.toInt ∧ v.toInt ≤ 4) ∧ ((x.toInt = 71 ∧ v.toInt = 0) ∨ (x.toInt = 87 ∧ v.toInt = 1) ∨ (x.toInt = 84 ∧ v.toInt = 2) ∨ (x.toInt = 65 ∧ v.toInt = 3) ∨ (x.toInt = 42 ∧ v.toInt = 4) ∨ (x.toInt ≠ 71 ∧ x.toInt ≠ 87 ∧ x.toInt ≠ 84 ∧ x.toInt ≠ 65 ∧ x.toInt ≠ 42 ∧ v.toInt = -1))) (fun _ => hwc g ka i r L d) (fun _ => []) (va_A (hwc g ka i r L d) sz)) 0 0 (va_A (hwc g ka i r L d) sz) := by
  refine x_met (Ex := gx ad) (cc := cJ1_indexOfChar_4cfef) (maxL := 6) (ret := (some .int)) (by decide) rfl (Nat.le_of_ble_eq_true rfl) ?_
  intro p e s m below meth c A ls hx hb hr hml hts hown hlocks hA hS hH hK hE hl
  have hown : s.vm.findClass RJ1 = some m.cls := hown
  have hl : lv_has ls 6 [(0, .ref (ad (5 + 4))), (1, .int x), (2, .int 0), (3, .int 5)] := hl
  have hK : va_K D vwCl (hT ka) s := hK
  have hg_1 := s_rng x
  refine lv_iload_n hx hb dJ1_indexOfChar_4cfef_0 rfl (lv_at hl 1 rfl) ?_
  refine lv_i2b hx hb dJ1_indexOfChar_4cfef_1 rfl ?_
  refine lv_topi (fun z_2 ez_2 => ?_)
  have hz_2 := s_i2b ez_2 (by omega) (by omega)
  refine lv_istore (lv' := [(4, .int z_2), (0, .ref (ad (5 + 4))), (1, .int x), (2, .int 0), (3, .int 5)]) hx hb dJ1_indexOfChar_4cfef_2 hl (by decide) rfl (fun ls hl => ?_)
  refine lv_iload_n hx hb dJ1_indexOfChar_4cfef_4 rfl (lv_at hl 3 rfl) ?_
  refine lv_istore (lv' := [(5, .int 0), (4, .int z_2), (0, .ref (ad (5 + 4))), (1, .int x), (2, .int 0), (3, .int 5)]) hx hb dJ1_indexOfChar_4cfef_5 hl (by decide) rfl (fun ls hl => ?_)
  refine lv_iload hx hb dJ1_indexOfChar_4cfef_7 (lv_at hl 0 rfl) ?_
  refine lv_iload_n hx hb dJ1_indexOfChar_4cfef_9 rfl (lv_at hl 5 rfl) ?_
  refine lv_icmp_ge (tgt := 31) hx hb dJ1_indexOfChar_4cfef_10 (by decide) (fun h => absurd h (by decide)) (fun _ => ?_)
  refine lv_aload_n hx hb dJ1_indexOfChar_4cfef_13 rfl (lv_at hl 2 rfl) ?_
  refine lv_iload hx hb dJ1_indexOfChar_4cfef_14 (lv_at hl 0 rfl) ?_
  refine va_tb (v := .int 71) hx hb (hE.1.1.1 4 (by decide)).2.2.2 hS (sj_vin (by decide) (by decide)) rfl dJ1_indexOfChar_4cfef_16 ?_
  refine lv_iload hx hb dJ1_indexOfChar_4cfef_17 (lv_at hl 1 rfl) ?_
  refine lv_icmp_ne (tgt := 25) hx hb dJ1_indexOfChar_4cfef_19 (by decide) (fun c_3 => ?_) (fun c_3 => ?_)
  · skip
    have h_4 := s_ne (show (71 : Int32).toInt = 71 from rfl) (rfl : z_2.toInt = _) c_3
    refine lv_iinc (v := 1) (lv' := [(5, .int 1), (4, .int z_2), (0, .ref (ad (5 + 4))), (1, .int x), (2, .int 0), (3, .int 5)]) hx hb dJ1_indexOfChar_4cfef_25 hl (k := 0) rfl (by decide) (by decide) rfl (fun ls hl => ?_)
    refine lv_goto (tgt := 7) hx hb dJ1_indexOfChar_4cfef_28 (by decide) ?_
    refine lv_iload hx hb dJ1_indexOfChar_4cfef_7 (lv_at hl 0 rfl) ?_
    refine lv_iload_n hx hb dJ1_indexOfChar_4cfef_9 rfl (lv_at hl 5 rfl) ?_
    refine lv_icmp_ge (tgt := 31) hx hb dJ1_indexOfChar_4cfef_10 (by decide) (fun h => absurd h (by decide)) (fun _ => ?_)
    refine lv_aload_n hx hb dJ1_indexOfChar_4cfef_13 rfl (lv_at hl 2 rfl) ?_
    refine lv_iload hx hb dJ1_indexOfChar_4cfef_14 (lv_at hl 0 rfl) ?_
    refine va_tb (v := .int 87) hx hb (hE.1.1.1 4 (by decide)).2.2.2 hS (sj_vin (by decide) (by decide)) rfl dJ1_indexOfChar_4cfef_16 ?_
    refine lv_iload hx hb dJ1_indexOfChar_4cfef_17 (lv_at hl 1 rfl) ?_
    refine lv_icmp_ne (tgt := 25) hx hb dJ1_indexOfChar_4cfef_19 (by decide) (fun c_5 => ?_) (fun c_5 => ?_)
    · skip
      have h_6 := s_ne (show (87 : Int32).toInt = 87 from rfl) (rfl : z_2.toInt = _) c_5
      refine lv_iinc (v := 2) (lv' := [(5, .int 2), (4, .int z_2), (0, .ref (ad (5 + 4))), (1, .int x), (2, .int 0), (3, .int 5)]) hx hb dJ1_indexOfChar_4cfef_25 hl (k := 0) rfl (by decide) (by decide) rfl (fun ls hl => ?_)
      refine lv_goto (tgt := 7) hx hb dJ1_indexOfChar_4cfef_28 (by decide) ?_
      refine lv_iload hx hb dJ1_indexOfChar_4cfef_7 (lv_at hl 0 rfl) ?_
      refine lv_iload_n hx hb dJ1_indexOfChar_4cfef_9 rfl (lv_at hl 5 rfl) ?_
      refine lv_icmp_ge (tgt := 31) hx hb dJ1_indexOfChar_4cfef_10 (by decide) (fun h => absurd h (by decide)) (fun _ => ?_)
      refine lv_aload_n hx hb dJ1_indexOfChar_4cfef_13 rfl (lv_at hl 2 rfl) ?_
      refine lv_iload hx hb dJ1_indexOfChar_4cfef_14 (lv_at hl 0 rfl) ?_
      refine va_tb (v := .int 84) hx hb (hE.1.1.1 4 (by decide)).2.2.2 hS (sj_vin (by decide) (by decide)) rfl dJ1_indexOfChar_4cfef_16 ?_
      refine lv_iload hx hb dJ1_indexOfChar_4cfef_17 (lv_at hl 1 rfl) ?_
      refine lv_icmp_ne (tgt := 25) hx hb dJ1_indexOfChar_4cfef_19 (by decide) (fun c_7 => ?_) (fun c_7 => ?_)
      · skip
        have h_8 := s_ne (show (84 : Int32).toInt = 84 from rfl) (rfl : z_2.toInt = _) c_7
        refine lv_iinc (v := 3) (lv' := [(5, .int 3), (4, .int z_2), (0, .ref (ad (5 + 4))), (1, .int x), (2, .int 0), (3, .int 5)]) hx hb dJ1_indexOfChar_4cfef_25 hl (k := 0) rfl (by decide) (by decide) rfl (fun ls hl => ?_)
        refine lv_goto (tgt := 7) hx hb dJ1_indexOfChar_4cfef_28 (by decide) ?_
        refine lv_iload hx hb dJ1_indexOfChar_4cfef_7 (lv_at hl 0 rfl) ?_
        refine lv_iload_n hx hb dJ1_indexOfChar_4cfef_9 rfl (lv_at hl 5 rfl) ?_
        refine lv_icmp_ge (tgt := 31) hx hb dJ1_indexOfChar_4cfef_10 (by decide) (fun h => absurd h (by decide)) (fun _ => ?_)
        refine lv_aload_n hx hb dJ1_indexOfChar_4cfef_13 rfl (lv_at hl 2 rfl) ?_
        refine lv_iload hx hb dJ1_indexOfChar_4cfef_14 (lv_at hl 0 rfl) ?_
        refine va_tb (v := .int 65) hx hb (hE.1.1.1 4 (by decide)).2.2.2 hS (sj_vin (by decide) (by decide)) rfl dJ1_indexOfChar_4cfef_16 ?_
        refine lv_iload hx hb dJ1_indexOfChar_4cfef_17 (lv_at hl 1 rfl) ?_
        refine lv_icmp_ne (tgt := 25) hx hb dJ1_indexOfChar_4cfef_19 (by decide) (fun c_9 => ?_) (fun c_9 => ?_)
        · skip
          have h_10 := s_ne (show (65 : Int32).toInt = 65 from rfl) (rfl : z_2.toInt = _) c_9
          refine lv_iinc (v := 4) (lv' := [(5, .int 4), (4, .int z_2), (0, .ref (ad (5 + 4))), (1, .int x), (2, .int 0), (3, .int 5)]) hx hb dJ1_indexOfChar_4cfef_25 hl (k := 0) rfl (by decide) (by decide) rfl (fun ls hl => ?_)
          refine lv_goto (tgt := 7) hx hb dJ1_indexOfChar_4cfef_28 (by decide) ?_
          refine lv_iload hx hb dJ1_indexOfChar_4cfef_7 (lv_at hl 0 rfl) ?_
          refine lv_iload_n hx hb dJ1_indexOfChar_4cfef_9 rfl (lv_at hl 5 rfl) ?_
          refine lv_icmp_ge (tgt := 31) hx hb dJ1_indexOfChar_4cfef_10 (by decide) (fun h => absurd h (by decide)) (fun _ => ?_)
          refine lv_aload_n hx hb dJ1_indexOfChar_4cfef_13 rfl (lv_at hl 2 rfl) ?_
          refine lv_iload hx hb dJ1_indexOfChar_4cfef_14 (lv_at hl 0 rfl) ?_
          refine va_tb (v := .int 42) hx hb (hE.1.1.1 4 (by decide)).2.2.2 hS (sj_vin (by decide) (by decide)) rfl dJ1_indexOfChar_4cfef_16 ?_
          refine lv_iload hx hb dJ1_indexOfChar_4cfef_17 (lv_at hl 1 rfl) ?_
          refine lv_icmp_ne (tgt := 25) hx hb dJ1_indexOfChar_4cfef_19 (by decide) (fun c_11 => ?_) (fun c_11 => ?_)
          · skip
            have h_12 := s_ne (show (42 : Int32).toInt = 42 from rfl) (rfl : z_2.toInt = _) c_11
            refine lv_iinc (v := 5) (lv' := [(5, .int 5), (4, .int z_2), (0, .ref (ad (5 + 4))), (1, .int x), (2, .int 0), (3, .int 5)]) hx hb dJ1_indexOfChar_4cfef_25 hl (k := 0) rfl (by decide) (by decide) rfl (fun ls hl => ?_)
            refine lv_goto (tgt := 7) hx hb dJ1_indexOfChar_4cfef_28 (by decide) ?_
            refine lv_iload hx hb dJ1_indexOfChar_4cfef_7 (lv_at hl 0 rfl) ?_
            refine lv_iload_n hx hb dJ1_indexOfChar_4cfef_9 rfl (lv_at hl 5 rfl) ?_
            refine lv_icmp_ge (tgt := 31) hx hb dJ1_indexOfChar_4cfef_10 (by decide) (fun _ => ?_) (fun h => absurd (by decide) h)
            refine lv_iconst (v := (-1)) hx hb dJ1_indexOfChar_4cfef_31 (by decide) ?_
            have hlv_13 : ((-1) : Int32).toInt = -1 := rfl
            exact sj_zret hx hb hr hlocks rfl hS () ⟨⟨by decide, by decide⟩, (by have h9 : ((-1) : Int32).toInt = -1 := rfl; omega)⟩ hH (sj_Knil hK) (Nat.le_of_ble_eq_true rfl) (Nat.le_of_ble_eq_true rfl) dJ1_indexOfChar_4cfef_32
          · skip
            have h_14 := s_eq (show (42 : Int32).toInt = 42 from rfl) (rfl : z_2.toInt = _) c_11
            refine lv_iload hx hb dJ1_indexOfChar_4cfef_22 (lv_at hl 0 rfl) ?_
            have hlv_15 : (4 : Int32).toInt = 4 := rfl
            exact sj_zret hx hb hr hlocks rfl hS () ⟨⟨by decide, by decide⟩, (by have h9 : (4 : Int32).toInt = 4 := rfl; omega)⟩ hH (sj_Knil hK) (Nat.le_of_ble_eq_true rfl) (Nat.le_of_ble_eq_true rfl) dJ1_indexOfChar_4cfef_24
        · skip
          have h_16 := s_eq (show (65 : Int32).toInt = 65 from rfl) (rfl : z_2.toInt = _) c_9
          refine lv_iload hx hb dJ1_indexOfChar_4cfef_22 (lv_at hl 0 rfl) ?_
          have hlv_17 : (3 : Int32).toInt = 3 := rfl
          exact sj_zret hx hb hr hlocks rfl hS () ⟨⟨by decide, by decide⟩, (by have h9 : (3 : Int32).toInt = 3 := rfl; omega)⟩ hH (sj_Knil hK) (Nat.le_of_ble_eq_true rfl) (Nat.le_of_ble_eq_true rfl) dJ1_indexOfChar_4cfef_24
      · skip
        have h_18 := s_eq (show (84 : Int32).toInt = 84 from rfl) (rfl : z_2.toInt = _) c_7
        refine lv_iload hx hb dJ1_indexOfChar_4cfef_22 (lv_at hl 0 rfl) ?_
        have hlv_19 : (2 : Int32).toInt = 2 := rfl
        exact sj_zret hx hb hr hlocks rfl hS () ⟨⟨by decide, by decide⟩, (by have h9 : (2 : Int32).toInt = 2 := rfl; omega)⟩ hH (sj_Knil hK) (Nat.le_of_ble_eq_true rfl) (Nat.le_of_ble_eq_true rfl) dJ1_indexOfChar_4cfef_24
    · skip
      have h_20 := s_eq (show (87 : Int32).toInt = 87 from rfl) (rfl : z_2.toInt = _) c_5
      refine lv_iload hx hb dJ1_indexOfChar_4cfef_22 (lv_at hl 0 rfl) ?_
      have hlv_21 : (1 : Int32).toInt = 1 := rfl
      exact sj_zret hx hb hr hlocks rfl hS () ⟨⟨by decide, by decide⟩, (by have h9 : (1 : Int32).toInt = 1 := rfl; omega)⟩ hH (sj_Knil hK) (Nat.le_of_ble_eq_true rfl) (Nat.le_of_ble_eq_true rfl) dJ1_indexOfChar_4cfef_24
  · skip
    have h_22 := s_eq (show (71 : Int32).toInt = 71 from rfl) (rfl : z_2.toInt = _) c_3
    refine lv_iload hx hb dJ1_indexOfChar_4cfef_22 (lv_at hl 0 rfl) ?_
    have hlv_23 : (0 : Int32).toInt = 0 := rfl
    exact sj_zret hx hb hr hlocks rfl hS () ⟨⟨by decide, by decide⟩, (by have h9 : (0 : Int32).toInt = 0 := rfl; omega)⟩ hH (sj_Knil hK) (Nat.le_of_ble_eq_true rfl) (Nat.le_of_ble_eq_true rfl) dJ1_indexOfChar_4cfef_24
set_option maxHeartbeats 2000000 in
set_option maxRecDepth 100000 in
theorem k_indexOfL_4 (l : Launch) (D : va_G) (g : Nat → Nat) (ka : Nat → ClassId) (ad : Nat → Nat) (i : Nat → Nat → Int32) (r : Nat → Nat → Nat) (L : Nat → Nat → Int64) (d : Nat → Nat → UInt64) (x : Int32) (hO : OkI i) (hR : RS r) (sz : Nat)  : Met l yJ1_indexOf_4cfef wsJ1_indexOf_4cfef ({ frames := 1, cells := 0, slots := 0, locals := 30 }) (va_Pc [.ref (ad (5 + 4)), .int x, .int 0, .int 5] (sj_B D (hwc g ka i r L d) (hT ka) sz (gx ad (va_A (hwc g ka i r L d) sz)))) (sj_Qi (S := Unit) D (fun v u => ((-1 : Int) ≤ v.toInt ∧ v.toInt ≤ 4) ∧ ((x.toInt = 71 ∧ v.toInt = 0) ∨ (x.toInt = 87 ∧ v.toInt = 1) ∨ (x.toInt = 84 ∧ v.toInt = 2) ∨ (x.toInt = 65 ∧ v.toInt = 3) ∨ (x.toInt = 42 ∧ v.toInt = 4) ∨ (x.toInt ≠ 71 ∧ x.toInt ≠ 87 ∧ x.toInt ≠ 84 ∧ x.toInt ≠ 65 ∧ x.toInt ≠ 42 ∧ v.toInt = -1))) (fun _ => hwc g ka i r L d) (fun _ => []) (va_A (hwc g ka i r L d) sz)) 0 0 (va_A (hwc g ka i r L d) sz) := by
  refine x_met (Ex := gx ad) (cc := cJ1_indexOf_4cfef) (maxL := 4) (ret := (some .int)) (by decide) rfl (Nat.le_of_ble_eq_true rfl) ?_
  intro p e s m below meth c A ls hx hb hr hml hts hown hlocks hA hS hH hK hE hl
  have hown : s.vm.findClass RJ1 = some m.cls := hown
  have wd0 := hts (.methodLink RJ1 92 Lib.Math.max.name) (List.mem_cons_of_mem _ lm0)
  have wd1 := hts (.static Lib.Math.max.name) (List.mem_cons_of_mem _ lm1)
  have wd2 := hts (.initialized "java/lang/Math") (List.mem_cons_of_mem _ lm2)
  have wd3 := hts (.code Lib.Math.max.name Lib.Math.max.code 2 (some .int)) (List.mem_cons_of_mem _ lm3)
  have wd4 := hts (.methodLink RJ1 38 Lib.Math.min.name) (List.mem_cons_of_mem _ lm4)
  have wd5 := hts (.static Lib.Math.min.name) (List.mem_cons_of_mem _ lm5)
  have wd6 := hts (.code Lib.Math.min.name Lib.Math.min.code 2 (some .int)) (List.mem_cons_of_mem _ lm6)
  have hl : lv_has ls 4 [(0, .ref (ad (5 + 4))), (1, .int x), (2, .int 0), (3, .int 5)] := hl
  have hK : va_K D vwCl (hT ka) s := hK
  have hg_1 := s_rng x
  refine lv_iload_n hx hb dJ1_indexOf_4cfef_0 rfl (lv_at hl 1 rfl) ?_
  refine x_calli (va_runS (As := [.int x]) (rest := []) ⟨hx, hb, hml, hown, hts⟩ (k_canEncode l D g ka ad i r L d x hO hR s.heap.size ) (cwS 1 hts gJ1_indexOf_4cfef_J1_canEncode_9a6ad rfl rfl rfl (by decide +kernel) ⟨(Nat.le_of_ble_eq_true rfl), (Nat.le_of_ble_eq_true rfl)⟩) (x_preS hH hK gxb (gxw hE hS (x_F hH hS hA))) rfl rfl hl.1 rfl (lv_room (Nat.le_of_ble_eq_true rfl)) dJ1_indexOf_4cfef_1 ⟨(Nat.le_of_ble_eq_true rfl), (Nat.le_of_ble_eq_true rfl)⟩) hH hS hA rfl rfl (fun r_2 _ H locs hw_3 hH hS => ?_)
  obtain ⟨hr_5, he_6⟩ := hw_3
  have hr_5 : (0 : Int) ≤ r_2.toInt ∧ r_2.toInt ≤ 1 := hr_5
  refine lv_if_ne (tgt := 9) hx hb dJ1_indexOf_4cfef_4 (by decide) (fun c_7 => ?_) (fun c_7 => ?_)
  · skip
    have h_8 := s_ne (rfl : r_2.toInt = _) (show (0 : Int32).toInt = 0 from rfl) c_7
    refine lv_iload_n hx hb dJ1_indexOf_4cfef_9 rfl (lv_at hl 2 rfl) ?_
    refine lv_iconst (v := 0) hx hb dJ1_indexOf_4cfef_10 (by decide) ?_
    refine va_mmax hx hb (hml.trans hl.1.symm) hown wd0 wd1 wd2 wd3 (Nat.le_of_ble_eq_true rfl) (Nat.le_of_ble_eq_true rfl) (Nat.le_of_ble_eq_true rfl) (Nat.le_of_ble_eq_true rfl) dJ1_indexOf_4cfef_11 ?_
    refine sj_i (y := 0) (by decide) ?_
    refine lv_istore_n (lv' := [(2, .int 0), (0, .ref (ad (5 + 4))), (1, .int x), (3, .int 5)]) hx hb dJ1_indexOf_4cfef_14 rfl hl (by decide) rfl (fun ls hl => ?_)
    refine lv_iload_n hx hb dJ1_indexOf_4cfef_15 rfl (lv_at hl 3 rfl) ?_
    refine lv_aload_n hx hb dJ1_indexOf_4cfef_16 rfl (lv_at hl 1 rfl) ?_
    refine va_tlen (v := 5) hx hb (hE.1.1.1 4 (by decide)).2.2.2 hS rfl dJ1_indexOf_4cfef_17 ?_
    refine va_mmin hx hb (hml.trans hl.1.symm) hown wd4 wd5 wd2 wd6 (Nat.le_of_ble_eq_true rfl) (Nat.le_of_ble_eq_true rfl) (Nat.le_of_ble_eq_true rfl) (Nat.le_of_ble_eq_true rfl) dJ1_indexOf_4cfef_18 ?_
    refine sj_i (y := 5) (by decide) ?_
    refine lv_istore_n (lv' := [(3, .int 5), (2, .int 0), (0, .ref (ad (5 + 4))), (1, .int x)]) hx hb dJ1_indexOf_4cfef_21 rfl hl (by decide) rfl (fun ls hl => ?_)
    refine lv_iload_n hx hb dJ1_indexOf_4cfef_22 rfl (lv_at hl 1 rfl) ?_
    refine lv_iload_n hx hb dJ1_indexOf_4cfef_23 rfl (lv_at hl 0 rfl) ?_
    refine lv_icmp_lt (tgt := 29) hx hb dJ1_indexOf_4cfef_24 (by decide) (fun _ => ?_) (fun h => absurd (by decide) h)
    refine lv_aload_n hx hb dJ1_indexOf_4cfef_29 rfl (lv_at hl 2 rfl) ?_
    refine lv_iload_n hx hb dJ1_indexOf_4cfef_30 rfl (lv_at hl 3 rfl) ?_
    refine lv_iload_n hx hb dJ1_indexOf_4cfef_31 rfl (lv_at hl 1 rfl) ?_
    refine lv_iload_n hx hb dJ1_indexOf_4cfef_32 rfl (lv_at hl 0 rfl) ?_
    have hl_9 : (0 : Int32).toInt = 0 := rfl
    have hl_10 : (5 : Int32).toInt = 5 := rfl
    refine x_calli (va_runS (As := [.ref (ad (5 + 4)), .int x, .int 0, .int 5]) (rest := []) ⟨hx, hb, hml, hown, hts⟩ (k_indexOfChar_4 l D g ka ad i r L d x hO hR H.size (by first | omega | decide) (by first | omega | decide)) (cwS 4 hts gJ1_indexOf_4cfef_J1_indexOfChar_4cfef rfl rfl rfl (by decide +kernel) ⟨(Nat.le_of_ble_eq_true rfl), (Nat.le_of_ble_eq_true rfl)⟩) (x_preS hH hK gxb (gxw hE hS (x_F hH hS hA))) rfl rfl hl.1 rfl (lv_room (Nat.le_of_ble_eq_true rfl)) dJ1_indexOf_4cfef_33 ⟨(Nat.le_of_ble_eq_true rfl), (Nat.le_of_ble_eq_true rfl)⟩) hH hS hA rfl rfl (fun r_11 _ H locs hw_12 hH hS => ?_)
    obtain ⟨hr_14, he_15⟩ := hw_12
    have hr_14 : (-1 : Int) ≤ r_11.toInt ∧ r_11.toInt ≤ 4 := hr_14
    exact sj_zret hx hb hr hlocks rfl hS () ⟨⟨by omega, by omega⟩, (by omega)⟩ hH (sj_Knil hK) (Nat.le_of_ble_eq_true rfl) (Nat.le_of_ble_eq_true rfl) dJ1_indexOf_4cfef_36
  · skip
    have h_16 := s_eq (rfl : r_2.toInt = _) (show (0 : Int32).toInt = 0 from rfl) c_7
    refine lv_iconst (v := (-1)) hx hb dJ1_indexOf_4cfef_7 (by decide) ?_
    have hlv_17 : ((-1) : Int32).toInt = -1 := rfl
    exact sj_zret hx hb hr hlocks rfl hS () ⟨⟨by decide, by decide⟩, (by have h9 : ((-1) : Int32).toInt = -1 := rfl; omega)⟩ hH (sj_Knil hK) (Nat.le_of_ble_eq_true rfl) (Nat.le_of_ble_eq_true rfl) dJ1_indexOf_4cfef_8
set_option maxHeartbeats 2000000 in
set_option maxRecDepth 100000 in
theorem k_length_4 (l : Launch) (D : va_G) (g : Nat → Nat) (ka : Nat → ClassId) (ad : Nat → Nat) (i : Nat → Nat → Int32) (r : Nat → Nat → Nat) (L : Nat → Nat → Int64) (d : Nat → Nat → UInt64)  (hO : OkI i) (hR : RS r) (sz : Nat)  : Met l yJ0_length_8abf5 wsJ0_length_8abf5 ({ frames := 1, cells := 0, slots := 0, locals := 20 }) (va_Pc [.ref (ad 4)] (sj_B D (hwc g ka i r L d) (hT ka) sz (gx ad (va_A (hwc g ka i r L d) sz)))) (sj_Qi (S := Unit) D (fun v u => ((5 : Int) ≤ v.toInt ∧ v.toInt ≤ 5)) (fun _ => hwc g ka i r L d) (fun _ => []) (va_A (hwc g ka i r L d) sz)) 0 0 (va_A (hwc g ka i r L d) sz) := by
  refine x_met (Ex := gx ad) (cc := cJ0_length_8abf5) (maxL := 1) (ret := (some .int)) (by decide) rfl (Nat.le_of_ble_eq_true rfl) ?_
  intro p e s m below meth c A ls hx hb hr hml hts hown hlocks hA hS hH hK hE hl
  have hown : s.vm.findClass RJ0 = some m.cls := hown
  have wd0 := hts (.fieldLink RJ0 9 "java/lang/String" "value" "[B") (List.mem_cons_of_mem _ lm0)
  have hl : lv_has ls 1 [(0, .ref (ad 4))] := hl
  have hK : va_K D vwCl (hT ka) s := hK
  refine lv_aload_n hx hb dJ0_length_8abf5_0 rfl (lv_at hl 0 rfl) ?_
  refine vk_getf hx hb (hE.1.1.1 4 (by decide)).2.2.1 hS hown wd0 (fun _ h9 => h9) dJ0_length_8abf5_1 ?_
  refine sj_v (y := .ref (ad (5 + 4))) rfl ?_
  refine va_tlen (v := 5) hx hb (hE.1.1.1 4 (by decide)).2.2.2 hS rfl dJ0_length_8abf5_4 ?_
  refine lv_aload_n hx hb dJ0_length_8abf5_5 rfl (lv_at hl 0 rfl) ?_
  refine x_calli (va_runV (As := []) (rest := [.int 5]) ⟨hx, hb, hml, hown, hts⟩ (k_coder_4 l D g ka ad i r L d  hO hR s.heap.size ) (cwV 0 hts gJ0_length_8abf5_J0_coder_7d493 rfl rfl rfl (by decide +kernel) ⟨(Nat.le_of_ble_eq_true rfl), (Nat.le_of_ble_eq_true rfl)⟩) (x_preS2 (n := 4) hE.1.1 (by decide) hH hK hS gxb (gxw hE hS (x_F hH hS hA))) rfl rfl hl.1 rfl (lv_room (Nat.le_of_ble_eq_true rfl)) dJ0_length_8abf5_6 ⟨(Nat.le_of_ble_eq_true rfl), (Nat.le_of_ble_eq_true rfl)⟩) hH hS hA rfl rfl (fun r_1 _ H locs hw_2 hH hS => ?_)
  have hr_4 := hw_2
  have hr_4 : (0 : Int) ≤ r_1.toInt ∧ r_1.toInt ≤ 0 := hr_4
  obtain rfl : r_1 = 0 := p_eq rfl (show (0 : Int32).toInt = 0 from rfl) (by omega)
  refine lv_ishr hx hb dJ0_length_8abf5_9 ?_
  refine sj_i (y := 5) (by decide) ?_
  exact sj_zret hx hb hr hlocks rfl hS () ⟨by decide, by decide⟩ hH (sj_Knil hK) (Nat.le_of_ble_eq_true rfl) (Nat.le_of_ble_eq_true rfl) dJ0_length_8abf5_10
set_option maxHeartbeats 2000000 in
set_option maxRecDepth 100000 in
theorem k_indexOf2_4 (l : Launch) (D : va_G) (g : Nat → Nat) (ka : Nat → ClassId) (ad : Nat → Nat) (i : Nat → Nat → Int32) (r : Nat → Nat → Nat) (L : Nat → Nat → Int64) (d : Nat → Nat → UInt64) (x : Int32) (hO : OkI i) (hR : RS r) (sz : Nat)  : Met l yJ0_indexOf_7cf53 wsJ0_indexOf_7cf53 ({ frames := 2, cells := 0, slots := 0, locals := 53 }) (va_Pc [.ref (ad 4), .int x, .int 0] (sj_B D (hwc g ka i r L d) (hT ka) sz (gx ad (va_A (hwc g ka i r L d) sz)))) (sj_Qi (S := Unit) D (fun v u => ((-1 : Int) ≤ v.toInt ∧ v.toInt ≤ 4) ∧ ((x.toInt = 71 ∧ v.toInt = 0) ∨ (x.toInt = 87 ∧ v.toInt = 1) ∨ (x.toInt = 84 ∧ v.toInt = 2) ∨ (x.toInt = 65 ∧ v.toInt = 3) ∨ (x.toInt = 42 ∧ v.toInt = 4) ∨ (x.toInt ≠ 71 ∧ x.toInt ≠ 87 ∧ x.toInt ≠ 84 ∧ x.toInt ≠ 65 ∧ x.toInt ≠ 42 ∧ v.toInt = -1))) (fun _ => hwc g ka i r L d) (fun _ => []) (va_A (hwc g ka i r L d) sz)) 0 0 (va_A (hwc g ka i r L d) sz) := by
  refine x_met (Ex := gx ad) (cc := cJ0_indexOf_7cf53) (maxL := 3) (ret := (some .int)) (by decide) rfl (Nat.le_of_ble_eq_true rfl) ?_
  intro p e s m below meth c A ls hx hb hr hml hts hown hlocks hA hS hH hK hE hl
  have hown : s.vm.findClass RJ0 = some m.cls := hown
  have wd0 := hts (.fieldLink RJ0 9 "java/lang/String" "value" "[B") (List.mem_cons_of_mem _ (List.mem_append_left _ lm0))
  have hl : lv_has ls 3 [(0, .ref (ad 4)), (1, .int x), (2, .int 0)] := hl
  have hK : va_K D vwCl (hT ka) s := hK
  have hg_1 := s_rng x
  refine lv_aload_n hx hb dJ0_indexOf_7cf53_0 rfl (lv_at hl 0 rfl) ?_
  refine x_calli (va_runV (As := []) (rest := []) ⟨hx, hb, hml, hown, hts⟩ (k_isLatin1_4 l D g ka ad i r L d  hO hR s.heap.size ) (cwV 0 hts gJ0_indexOf_7cf53_J0_isLatin1_aae02 rfl rfl rfl (by decide +kernel) ⟨(Nat.le_of_ble_eq_true rfl), (Nat.le_of_ble_eq_true rfl)⟩) (x_preS2 (n := 4) hE.1.1 (by decide) hH hK hS gxb (gxw hE hS (x_F hH hS hA))) rfl rfl hl.1 rfl (lv_room (Nat.le_of_ble_eq_true rfl)) dJ0_indexOf_7cf53_1 ⟨(Nat.le_of_ble_eq_true rfl), (Nat.le_of_ble_eq_true rfl)⟩) hH hS hA rfl rfl (fun r_2 _ H locs hw_3 hH hS => ?_)
  have hr_5 := hw_3
  have hr_5 : (1 : Int) ≤ r_2.toInt ∧ r_2.toInt ≤ 1 := hr_5
  obtain rfl : r_2 = 1 := p_eq rfl (show (1 : Int32).toInt = 1 from rfl) (by omega)
  refine lv_if_eq (tgt := 23) hx hb dJ0_indexOf_7cf53_4 (by decide) (fun h => absurd h (by decide)) (fun _ => ?_)
  refine lv_aload_n hx hb dJ0_indexOf_7cf53_7 rfl (lv_at hl 0 rfl) ?_
  refine vk_getf hx hb (hE.1.1.1 4 (by decide)).2.2.1 hS hown wd0 (fun _ h9 => h9) dJ0_indexOf_7cf53_8 ?_
  refine sj_v (y := .ref (ad (5 + 4))) rfl ?_
  refine lv_iload_n hx hb dJ0_indexOf_7cf53_11 rfl (lv_at hl 1 rfl) ?_
  refine lv_iload_n hx hb dJ0_indexOf_7cf53_12 rfl (lv_at hl 2 rfl) ?_
  refine lv_aload_n hx hb dJ0_indexOf_7cf53_13 rfl (lv_at hl 0 rfl) ?_
  refine x_calli (va_runV (As := []) (rest := [.int 0, .int x, .ref (ad (5 + 4))]) ⟨hx, hb, hml, hown, hts⟩ (k_length_4 l D g ka ad i r L d  hO hR H.size ) (cwV 0 hts gJ0_indexOf_7cf53_J0_length_8abf5 rfl rfl rfl (by decide +kernel) ⟨(Nat.le_of_ble_eq_true rfl), (Nat.le_of_ble_eq_true rfl)⟩) (x_preS2 (n := 4) hE.1.1 (by decide) hH hK hS gxb (gxw hE hS (x_F hH hS hA))) rfl rfl hl.1 rfl (lv_room (Nat.le_of_ble_eq_true rfl)) dJ0_indexOf_7cf53_14 ⟨(Nat.le_of_ble_eq_true rfl), (Nat.le_of_ble_eq_true rfl)⟩) hH hS hA rfl rfl (fun r_6 _ H locs hw_7 hH hS => ?_)
  have hr_9 := hw_7
  have hr_9 : (5 : Int) ≤ r_6.toInt ∧ r_6.toInt ≤ 5 := hr_9
  obtain rfl : r_6 = 5 := p_eq rfl (show (5 : Int32).toInt = 5 from rfl) (by omega)
  have hl_10 : (0 : Int32).toInt = 0 := rfl
  have hl_11 : (5 : Int32).toInt = 5 := rfl
  refine x_calli (va_runS (As := [.ref (ad (5 + 4)), .int x, .int 0, .int 5]) (rest := []) ⟨hx, hb, hml, hown, hts⟩ (k_indexOfL_4 l D g ka ad i r L d x hO hR H.size ) (va_cwS 4 hts gJ0_indexOf_7cf53_J1_indexOf_4cfef rfl rfl rfl (by decide +kernel) ⟨(Nat.le_of_ble_eq_true rfl), (Nat.le_of_ble_eq_true rfl)⟩) (x_preS hH hK gxb (gxw hE hS (x_F hH hS hA))) rfl rfl hl.1 rfl (lv_room (Nat.le_of_ble_eq_true rfl)) dJ0_indexOf_7cf53_17 ⟨(Nat.le_of_ble_eq_true rfl), (Nat.le_of_ble_eq_true rfl)⟩) hH hS hA rfl rfl (fun r_12 _ H locs hw_13 hH hS => ?_)
  obtain ⟨hr_15, he_16⟩ := hw_13
  have hr_15 : (-1 : Int) ≤ r_12.toInt ∧ r_12.toInt ≤ 4 := hr_15
  refine lv_goto (tgt := 36) hx hb dJ0_indexOf_7cf53_20 (by decide) ?_
  exact sj_zret hx hb hr hlocks rfl hS () ⟨⟨by omega, by omega⟩, (by omega)⟩ hH (sj_Knil hK) (Nat.le_of_ble_eq_true rfl) (Nat.le_of_ble_eq_true rfl) dJ0_indexOf_7cf53_36
set_option maxHeartbeats 2000000 in
set_option maxRecDepth 100000 in
theorem k_indexOf_4 (l : Launch) (D : va_G) (g : Nat → Nat) (ka : Nat → ClassId) (ad : Nat → Nat) (i : Nat → Nat → Int32) (r : Nat → Nat → Nat) (L : Nat → Nat → Int64) (d : Nat → Nat → UInt64) (x : Int32) (hO : OkI i) (hR : RS r) (sz : Nat)  : Met l yJ0_indexOf_0f7a4 wsJ0_indexOf_0f7a4 ({ frames := 3, cells := 0, slots := 0, locals := 75 }) (va_Pc [.ref (ad 4), .int x] (sj_B D (hwc g ka i r L d) (hT ka) sz (gx ad (va_A (hwc g ka i r L d) sz)))) (sj_Qi (S := Unit) D (fun v u => ((-1 : Int) ≤ v.toInt ∧ v.toInt ≤ 4) ∧ ((x.toInt = 71 ∧ v.toInt = 0) ∨ (x.toInt = 87 ∧ v.toInt = 1) ∨ (x.toInt = 84 ∧ v.toInt = 2) ∨ (x.toInt = 65 ∧ v.toInt = 3) ∨ (x.toInt = 42 ∧ v.toInt = 4) ∨ (x.toInt ≠ 71 ∧ x.toInt ≠ 87 ∧ x.toInt ≠ 84 ∧ x.toInt ≠ 65 ∧ x.toInt ≠ 42 ∧ v.toInt = -1))) (fun _ => hwc g ka i r L d) (fun _ => []) (va_A (hwc g ka i r L d) sz)) 0 0 (va_A (hwc g ka i r L d) sz) := by
  refine x_met (Ex := gx ad) (cc := cJ0_indexOf_0f7a4) (maxL := 2) (ret := (some .int)) (by decide) rfl (Nat.le_of_ble_eq_true rfl) ?_
  intro p e s m below meth c A ls hx hb hr hml hts hown hlocks hA hS hH hK hE hl
  have hown : s.vm.findClass RJ0 = some m.cls := hown
  have hl : lv_has ls 2 [(0, .ref (ad 4)), (1, .int x)] := hl
  have hK : va_K D vwCl (hT ka) s := hK
  have hg_1 := s_rng x
  refine lv_aload_n hx hb dJ0_indexOf_0f7a4_0 rfl (lv_at hl 0 rfl) ?_
  refine lv_iload_n hx hb dJ0_indexOf_0f7a4_1 rfl (lv_at hl 1 rfl) ?_
  refine lv_iconst (v := 0) hx hb dJ0_indexOf_0f7a4_2 (by decide) ?_
  have hl_2 : (0 : Int32).toInt = 0 := rfl
  refine x_calli (va_runV (As := [.int x, .int 0]) (rest := []) ⟨hx, hb, hml, hown, hts⟩ (k_indexOf2_4 l D g ka ad i r L d x hO hR s.heap.size ) (cwV 2 hts gJ0_indexOf_0f7a4_J0_indexOf_7cf53 rfl rfl rfl (by decide +kernel) ⟨(Nat.le_of_ble_eq_true rfl), (Nat.le_of_ble_eq_true rfl)⟩) (x_preS2 (n := 4) hE.1.1 (by decide) hH hK hS gxb (gxw hE hS (x_F hH hS hA))) rfl rfl hl.1 rfl (lv_room (Nat.le_of_ble_eq_true rfl)) dJ0_indexOf_0f7a4_3 ⟨(Nat.le_of_ble_eq_true rfl), (Nat.le_of_ble_eq_true rfl)⟩) hH hS hA rfl rfl (fun r_3 _ H locs hw_4 hH hS => ?_)
  obtain ⟨hr_6, he_7⟩ := hw_4
  have hr_6 : (-1 : Int) ≤ r_3.toInt ∧ r_3.toInt ≤ 4 := hr_6
  exact sj_zret hx hb hr hlocks rfl hS () ⟨⟨by omega, by omega⟩, (by omega)⟩ hH (sj_Knil hK) (Nat.le_of_ble_eq_true rfl) (Nat.le_of_ble_eq_true rfl) dJ0_indexOf_0f7a4_6
