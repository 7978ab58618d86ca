theorem kw_Bu : ∀ w ∈ u_ws "AddressClaimBus$Bus" nT_Bu 6, w ∈ zx_T := by
  intro w hw
  obtain ⟨i, hi, rfl⟩ := List.mem_map.mp hw
  have hi : i < 6 := List.mem_range.mp hi
  match i, hi with
  | 0, _ => exact wd_38
  | 1, _ => exact wd_40
  | 2, _ => exact wd_42
  | 3, _ => exact wd_44
  | 4, _ => exact wd_46
  | 5, _ => exact wd_48
theorem kc_Bu : zx_Cl 0 "AddressClaimBus$Bus" nT_Bu 6 nt_Bu := ⟨rfl, kw_Bu, by decide +kernel, by decide +kernel⟩
theorem kw_Fu : ∀ w ∈ u_ws "AddressClaimBus$Function" nT_Fu 10, w ∈ zx_T := by
  intro w hw
  obtain ⟨i, hi, rfl⟩ := List.mem_map.mp hw
  have hi : i < 10 := List.mem_range.mp hi
  match i, hi with
  | 0, _ => exact wd_214
  | 1, _ => exact wd_216
  | 2, _ => exact wd_218
  | 3, _ => exact wd_220
  | 4, _ => exact wd_222
  | 5, _ => exact wd_224
  | 6, _ => exact wd_226
  | 7, _ => exact wd_228
  | 8, _ => exact wd_230
  | 9, _ => exact wd_232
theorem kc_Fu : zx_Cl 1 "AddressClaimBus$Function" nT_Fu 10 nt_Fu := ⟨rfl, kw_Fu, by decide +kernel, by decide +kernel⟩
theorem kw_In : ∀ w ∈ u_ws "AddressClaimBus$Incoming" nT_In 9, w ∈ zx_T := by
  intro w hw
  obtain ⟨i, hi, rfl⟩ := List.mem_map.mp hw
  have hi : i < 9 := List.mem_range.mp hi
  match i, hi with
  | 0, _ => exact wd_178
  | 1, _ => exact wd_180
  | 2, _ => exact wd_182
  | 3, _ => exact wd_184
  | 4, _ => exact wd_186
  | 5, _ => exact wd_188
  | 6, _ => exact wd_190
  | 7, _ => exact wd_192
  | 8, _ => exact wd_194
theorem kc_In : zx_Cl 2 "AddressClaimBus$Incoming" nT_In 9 nt_In := ⟨rfl, kw_In, by decide +kernel, by decide +kernel⟩
theorem kw_Ms : ∀ w ∈ u_ws "AddressClaimBus$Message" nT_Ms 5, w ∈ zx_T := by
  intro w hw
  obtain ⟨i, hi, rfl⟩ := List.mem_map.mp hw
  have hi : i < 5 := List.mem_range.mp hi
  match i, hi with
  | 0, _ => exact wd_103
  | 1, _ => exact wd_105
  | 2, _ => exact wd_107
  | 3, _ => exact wd_109
  | 4, _ => exact wd_111
theorem kc_Ms : zx_Cl 3 "AddressClaimBus$Message" nT_Ms 5 nt_Ms := ⟨rfl, kw_Ms, by decide +kernel, by decide +kernel⟩
theorem kw_Ou : ∀ w ∈ u_ws "AddressClaimBus$Outgoing" nT_Ou 10, w ∈ zx_T := by
  intro w hw
  obtain ⟨i, hi, rfl⟩ := List.mem_map.mp hw
  have hi : i < 10 := List.mem_range.mp hi
  match i, hi with
  | 0, _ => exact wd_137
  | 1, _ => exact wd_139
  | 2, _ => exact wd_141
  | 3, _ => exact wd_143
  | 4, _ => exact wd_145
  | 5, _ => exact wd_147
  | 6, _ => exact wd_149
  | 7, _ => exact wd_151
  | 8, _ => exact wd_153
  | 9, _ => exact wd_155
theorem kc_Ou : zx_Cl 4 "AddressClaimBus$Outgoing" nT_Ou 10 nt_Ou := ⟨rfl, kw_Ou, by decide +kernel, by decide +kernel⟩
theorem kw_St : ∀ w ∈ u_ws "AddressClaimBus$Station" nT_St 3, w ∈ zx_T := by
  intro w hw
  obtain ⟨i, hi, rfl⟩ := List.mem_map.mp hw
  have hi : i < 3 := List.mem_range.mp hi
  match i, hi with
  | 0, _ => exact wd_70
  | 1, _ => exact wd_72
  | 2, _ => exact wd_74
theorem kc_St : zx_Cl 5 "AddressClaimBus$Station" nT_St 3 nt_St := ⟨rfl, kw_St, by decide +kernel, by decide +kernel⟩
theorem kw_Ab : ∀ w ∈ u_ws "AddressClaimBus" nT_Ab 2, w ∈ zx_T := by
  intro w hw
  obtain ⟨i, hi, rfl⟩ := List.mem_map.mp hw
  have hi : i < 2 := List.mem_range.mp hi
  match i, hi with
  | 0, _ => exact wd_237
  | 1, _ => exact wd_239
theorem kc_Ab : zx_Cl 6 "AddressClaimBus" nT_Ab 2 nt_Ab := ⟨rfl, kw_Ab, by decide +kernel, by decide +kernel⟩
theorem kw_Md : ∀ w ∈ u_ws "AddressClaimBusModel" nT_Md 34, w ∈ zx_T := by
  intro w hw
  obtain ⟨i, hi, rfl⟩ := List.mem_map.mp hw
  have hi : i < 34 := List.mem_range.mp hi
  match i, hi with
  | 0, _ => exact wd_614
  | 1, _ => exact wd_616
  | 2, _ => exact wd_618
  | 3, _ => exact wd_620
  | 4, _ => exact wd_622
  | 5, _ => exact wd_624
  | 6, _ => exact wd_626
  | 7, _ => exact wd_628
  | 8, _ => exact wd_630
  | 9, _ => exact wd_632
  | 10, _ => exact wd_634
  | 11, _ => exact wd_636
  | 12, _ => exact wd_638
  | 13, _ => exact wd_640
  | 14, _ => exact wd_642
  | 15, _ => exact wd_644
  | 16, _ => exact wd_646
  | 17, _ => exact wd_648
  | 18, _ => exact wd_650
  | 19, _ => exact wd_652
  | 20, _ => exact wd_654
  | 21, _ => exact wd_656
  | 22, _ => exact wd_658
  | 23, _ => exact wd_660
  | 24, _ => exact wd_662
  | 25, _ => exact wd_664
  | 26, _ => exact wd_666
  | 27, _ => exact wd_668
  | 28, _ => exact wd_670
  | 29, _ => exact wd_672
  | 30, _ => exact wd_674
  | 31, _ => exact wd_676
  | 32, _ => exact wd_678
  | 33, _ => exact wd_680
  | j + 34, h => exact absurd h (by omega)
theorem kc_Md : zx_Cl 7 "AddressClaimBusModel" nT_Md 34 nt_Md := ⟨rfl, kw_Md, by decide +kernel, by decide +kernel⟩
def my_Ab_init : MethodName := ⟨"AddressClaimBus", "<init>", "()V"⟩
def mi_Ab_init : zxM := ("AddressClaimBus", "<init>", prog_1_method_1_code, 2, none, { frames := 4, cells := 70, slots := 575, locals := 160 }, 70, 575)
def my_Ab_start : MethodName := ⟨"AddressClaimBus", "start", "(IJI)Z"⟩
def mi_Ab_start : zxM := ("AddressClaimBus", "start", prog_1_method_2_code, 5, (some FieldType.boolean), { frames := 4, cells := 0, slots := 0, locals := 160 }, 0, 0)
def my_Ab_stop : MethodName := ⟨"AddressClaimBus", "stop", "(I)Z"⟩
def mi_Ab_stop : zxM := ("AddressClaimBus", "stop", prog_1_method_3_code, 2, (some FieldType.boolean), { frames := 3, cells := 0, slots := 0, locals := 120 }, 0, 0)
def my_Ab_busy : MethodName := ⟨"AddressClaimBus", "busy", "(IZ)Z"⟩
def mi_Ab_busy : zxM := ("AddressClaimBus", "busy", prog_1_method_4_code, 3, (some FieldType.boolean), { frames := 1, cells := 0, slots := 0, locals := 40 }, 0, 0)
def my_Ab_state : MethodName := ⟨"AddressClaimBus", "state", "(I)I"⟩
def mi_Ab_state : zxM := ("AddressClaimBus", "state", prog_1_method_5_code, 2, (some FieldType.int), { frames := 1, cells := 0, slots := 0, locals := 40 }, 0, 0)
def my_Ab_address : MethodName := ⟨"AddressClaimBus", "address", "(I)I"⟩
def mi_Ab_address : zxM := ("AddressClaimBus", "address", prog_1_method_6_code, 2, (some FieldType.int), { frames := 2, cells := 0, slots := 0, locals := 80 }, 0, 0)
def my_Ab_noted : MethodName := ⟨"AddressClaimBus", "noted", "(II)I"⟩
def mi_Ab_noted : zxM := ("AddressClaimBus", "noted", prog_1_method_7_code, 3, (some FieldType.int), { frames := 2, cells := 0, slots := 0, locals := 80 }, 0, 0)
def my_Ab_request : MethodName := ⟨"AddressClaimBus", "request", "(I)Z"⟩
def mi_Ab_request : zxM := ("AddressClaimBus", "request", prog_1_method_8_code, 2, (some FieldType.boolean), { frames := 2, cells := 0, slots := 0, locals := 80 }, 0, 0)
def my_Ab_send : MethodName := ⟨"AddressClaimBus", "send", "(IIIIJ)Z"⟩
def mi_Ab_send : zxM := ("AddressClaimBus", "send", prog_1_method_9_code, 7, (some FieldType.boolean), { frames := 3, cells := 0, slots := 0, locals := 120 }, 0, 0)
def my_Ab_waiting : MethodName := ⟨"AddressClaimBus", "waiting", "()I"⟩
def mi_Ab_waiting : zxM := ("AddressClaimBus", "waiting", prog_1_method_10_code, 1, (some FieldType.int), { frames := 0, cells := 0, slots := 0, locals := 0 }, 0, 0)
def my_Ab_identifier : MethodName := ⟨"AddressClaimBus", "identifier", "()I"⟩
def mi_Ab_identifier : zxM := ("AddressClaimBus", "identifier", prog_1_method_11_code, 2, (some FieldType.int), { frames := 1, cells := 0, slots := 0, locals := 40 }, 0, 0)
def my_Ab_data : MethodName := ⟨"AddressClaimBus", "data", "()J"⟩
def mi_Ab_data : zxM := ("AddressClaimBus", "data", prog_1_method_12_code, 2, (some FieldType.long), { frames := 1, cells := 0, slots := 0, locals := 40 }, 0, 0)
def my_Ab_deliver : MethodName := ⟨"AddressClaimBus", "deliver", "(Z)Z"⟩
def mi_Ab_deliver : zxM := ("AddressClaimBus", "deliver", prog_1_method_13_code, 8, (some FieldType.boolean), { frames := 6, cells := 0, slots := 0, locals := 240 }, 0, 0)
def my_Ab_lose : MethodName := ⟨"AddressClaimBus", "lose", "()Z"⟩
def mi_Ab_lose : zxM := ("AddressClaimBus", "lose", prog_1_method_14_code, 2, (some FieldType.boolean), { frames := 2, cells := 0, slots := 0, locals := 80 }, 0, 0)
def my_Ab_overflowed : MethodName := ⟨"AddressClaimBus", "overflowed", "()I"⟩
def mi_Ab_overflowed : zxM := ("AddressClaimBus", "overflowed", prog_1_method_15_code, 1, (some FieldType.int), { frames := 0, cells := 0, slots := 0, locals := 0 }, 0, 0)
def my_Ab_tick : MethodName := ⟨"AddressClaimBus", "tick", "(I)I"⟩
def mi_Ab_tick : zxM := ("AddressClaimBus", "tick", prog_1_method_16_code, 8, (some FieldType.int), { frames := 5, cells := 0, slots := 0, locals := 200 }, 0, 0)
def my_Ab_outgoing : MethodName := ⟨"AddressClaimBus", "outgoing", "(I)I"⟩
def mi_Ab_outgoing : zxM := ("AddressClaimBus", "outgoing", prog_1_method_17_code, 3, (some FieldType.int), { frames := 2, cells := 0, slots := 0, locals := 80 }, 0, 0)
def my_Ab_incoming : MethodName := ⟨"AddressClaimBus", "incoming", "(I)I"⟩
def mi_Ab_incoming : zxM := ("AddressClaimBus", "incoming", prog_1_method_18_code, 2, (some FieldType.int), { frames := 2, cells := 0, slots := 0, locals := 80 }, 0, 0)
def my_Ab_delivered : MethodName := ⟨"AddressClaimBus", "delivered", "(I)I"⟩
def mi_Ab_delivered : zxM := ("AddressClaimBus", "delivered", prog_1_method_19_code, 2, (some FieldType.int), { frames := 2, cells := 0, slots := 0, locals := 80 }, 0, 0)
def my_Ab_message : MethodName := ⟨"AddressClaimBus", "message", "(II)I"⟩
def mi_Ab_message : zxM := ("AddressClaimBus", "message", prog_1_method_20_code, 4, (some FieldType.int), { frames := 3, cells := 0, slots := 0, locals := 120 }, 0, 0)
def my_Ab_byteOf : MethodName := ⟨"AddressClaimBus", "byteOf", "(II)I"⟩
def mi_Ab_byteOf : zxM := ("AddressClaimBus", "byteOf", prog_1_method_21_code, 3, (some FieldType.int), { frames := 3, cells := 0, slots := 0, locals := 120 }, 0, 0)
def my_Ab_isFunction : MethodName := ⟨"AddressClaimBus", "isFunction", "(I)Z"⟩
def mi_Ab_isFunction : zxM := ("AddressClaimBus", "isFunction", prog_1_method_22_code, 2, (some FieldType.boolean), { frames := 0, cells := 0, slots := 0, locals := 0 }, 0, 0)
def my_Ab_isOn : MethodName := ⟨"AddressClaimBus", "isOn", "(I)Z"⟩
def mi_Ab_isOn : zxM := ("AddressClaimBus", "isOn", prog_1_method_23_code, 2, (some FieldType.boolean), { frames := 1, cells := 0, slots := 0, locals := 40 }, 0, 0)
def my_Ab_hasMessage : MethodName := ⟨"AddressClaimBus", "hasMessage", "(I)Z"⟩
def mi_Ab_hasMessage : zxM := ("AddressClaimBus", "hasMessage", prog_1_method_24_code, 2, (some FieldType.boolean), { frames := 2, cells := 0, slots := 0, locals := 80 }, 0, 0)
def my_Ab_isNameTaken : MethodName := ⟨"AddressClaimBus", "isNameTaken", "(J)Z"⟩
def mi_Ab_isNameTaken : zxM := ("AddressClaimBus", "isNameTaken", prog_1_method_25_code, 4, (some FieldType.boolean), { frames := 2, cells := 0, slots := 0, locals := 80 }, 0, 0)
def my_Ab_firstDue : MethodName := ⟨"AddressClaimBus", "firstDue", "()I"⟩
def mi_Ab_firstDue : zxM := ("AddressClaimBus", "firstDue", prog_1_method_26_code, 3, (some FieldType.int), { frames := 2, cells := 0, slots := 0, locals := 80 }, 0, 0)
def my_Ab_packetsFor : MethodName := ⟨"AddressClaimBus", "packetsFor", "(I)I"⟩
def mi_Ab_packetsFor : zxM := ("AddressClaimBus", "packetsFor", prog_1_method_27_code, 1, (some FieldType.int), { frames := 0, cells := 0, slots := 0, locals := 0 }, 0, 0)
def my_Ab_frameByte : MethodName := ⟨"AddressClaimBus", "frameByte", "(JI)I"⟩
def mi_Ab_frameByte : zxM := ("AddressClaimBus", "frameByte", prog_1_method_28_code, 3, (some FieldType.int), { frames := 0, cells := 0, slots := 0, locals := 0 }, 0, 0)
def my_Ab_controlData : MethodName := ⟨"AddressClaimBus", "controlData", "(IIIII)J"⟩
def mi_Ab_controlData : zxM := ("AddressClaimBus", "controlData", prog_1_method_29_code, 7, (some FieldType.long), { frames := 0, cells := 0, slots := 0, locals := 0 }, 0, 0)
def my_Ab_extentData : MethodName := ⟨"AddressClaimBus", "extentData", "(III)J"⟩
def mi_Ab_extentData : zxM := ("AddressClaimBus", "extentData", prog_1_method_30_code, 3, (some FieldType.long), { frames := 1, cells := 0, slots := 0, locals := 40 }, 0, 0)
def my_Ab_abortData : MethodName := ⟨"AddressClaimBus", "abortData", "(II)J"⟩
def mi_Ab_abortData : zxM := ("AddressClaimBus", "abortData", prog_1_method_31_code, 2, (some FieldType.long), { frames := 1, cells := 0, slots := 0, locals := 40 }, 0, 0)
def my_Md_init : MethodName := ⟨"AddressClaimBusModel", "<init>", "()V"⟩
def mi_Md_init : zxM := ("AddressClaimBusModel", "<init>", prog_9_method_1_code, 1, none, { frames := 1, cells := 31, slots := 1089, locals := 40 }, 31, 1089)
def my_Md_on : MethodName := ⟨"AddressClaimBusModel", "on", "(I)Z"⟩
def mi_Md_on : zxM := ("AddressClaimBusModel", "on", prog_9_method_2_code, 2, (some FieldType.boolean), { frames := 0, cells := 0, slots := 0, locals := 0 }, 0, 0)
def my_Md_packets : MethodName := ⟨"AddressClaimBusModel", "packets", "(I)I"⟩
def mi_Md_packets : zxM := ("AddressClaimBusModel", "packets", prog_9_method_3_code, 1, (some FieldType.int), { frames := 0, cells := 0, slots := 0, locals := 0 }, 0, 0)
def my_Md_source : MethodName := ⟨"AddressClaimBusModel", "source", "(I)I"⟩
def mi_Md_source : zxM := ("AddressClaimBusModel", "source", prog_9_method_4_code, 2, (some FieldType.int), { frames := 0, cells := 0, slots := 0, locals := 0 }, 0, 0)
def my_Md_put : MethodName := ⟨"AddressClaimBusModel", "put", "(IIIIJ)V"⟩
def mi_Md_put : zxM := ("AddressClaimBusModel", "put", prog_9_method_5_code, 7, none, { frames := 1, cells := 0, slots := 0, locals := 40 }, 0, 0)
def my_Md_putClaim : MethodName := ⟨"AddressClaimBusModel", "putClaim", "(I)V"⟩
def mi_Md_putClaim : zxM := ("AddressClaimBusModel", "putClaim", prog_9_method_6_code, 2, none, { frames := 2, cells := 0, slots := 0, locals := 80 }, 0, 0)
def my_Md_putControl : MethodName := ⟨"AddressClaimBusModel", "putControl", "(IIIIIII)V"⟩
def mi_Md_putControl : zxM := ("AddressClaimBusModel", "putControl", prog_9_method_7_code, 8, none, { frames := 2, cells := 0, slots := 0, locals := 80 }, 0, 0)
def my_Md_putAbort : MethodName := ⟨"AddressClaimBusModel", "putAbort", "(IIII)V"⟩
def mi_Md_putAbort : zxM := ("AddressClaimBusModel", "putAbort", prog_9_method_8_code, 5, none, { frames := 3, cells := 0, slots := 0, locals := 120 }, 0, 0)
def my_Md_putPacket : MethodName := ⟨"AddressClaimBusModel", "putPacket", "(II)V"⟩
def mi_Md_putPacket : zxM := ("AddressClaimBusModel", "putPacket", prog_9_method_9_code, 9, none, { frames := 2, cells := 0, slots := 0, locals := 80 }, 0, 0)
def my_Md_takeAway : MethodName := ⟨"AddressClaimBusModel", "takeAway", "(I)V"⟩
def mi_Md_takeAway : zxM := ("AddressClaimBusModel", "takeAway", prog_9_method_10_code, 3, none, { frames := 0, cells := 0, slots := 0, locals := 0 }, 0, 0)
def my_Md_next : MethodName := ⟨"AddressClaimBusModel", "next", "()I"⟩
def mi_Md_next : zxM := ("AddressClaimBusModel", "next", prog_9_method_11_code, 3, (some FieldType.int), { frames := 0, cells := 0, slots := 0, locals := 0 }, 0, 0)
def my_Md_waiting : MethodName := ⟨"AddressClaimBusModel", "waiting", "()I"⟩
def mi_Md_waiting : zxM := ("AddressClaimBusModel", "waiting", prog_9_method_12_code, 1, (some FieldType.int), { frames := 0, cells := 0, slots := 0, locals := 0 }, 0, 0)
def my_Md_identifier : MethodName := ⟨"AddressClaimBusModel", "identifier", "()I"⟩
def mi_Md_identifier : zxM := ("AddressClaimBusModel", "identifier", prog_9_method_13_code, 2, (some FieldType.int), { frames := 1, cells := 0, slots := 0, locals := 40 }, 0, 0)
def my_Md_data : MethodName := ⟨"AddressClaimBusModel", "data", "()J"⟩
def mi_Md_data : zxM := ("AddressClaimBusModel", "data", prog_9_method_14_code, 2, (some FieldType.long), { frames := 1, cells := 0, slots := 0, locals := 40 }, 0, 0)
def my_Md_lose : MethodName := ⟨"AddressClaimBusModel", "lose", "()Z"⟩
def mi_Md_lose : zxM := ("AddressClaimBusModel", "lose", prog_9_method_15_code, 2, (some FieldType.boolean), { frames := 1, cells := 0, slots := 0, locals := 40 }, 0, 0)
def my_Md_overflowed : MethodName := ⟨"AddressClaimBusModel", "overflowed", "()I"⟩
def mi_Md_overflowed : zxM := ("AddressClaimBusModel", "overflowed", prog_9_method_16_code, 1, (some FieldType.int), { frames := 0, cells := 0, slots := 0, locals := 0 }, 0, 0)
def my_Md_deliver : MethodName := ⟨"AddressClaimBusModel", "deliver", "(Z)Z"⟩
def mi_Md_deliver : zxM := ("AddressClaimBusModel", "deliver", prog_9_method_17_code, 12, (some FieldType.boolean), { frames := 7, cells := 0, slots := 0, locals := 280 }, 0, 0)
def my_Md_reach : MethodName := ⟨"AddressClaimBusModel", "reach", "(IIIIIJ)V"⟩
def mi_Md_reach : zxM := ("AddressClaimBusModel", "reach", prog_9_method_18_code, 8, none, { frames := 6, cells := 0, slots := 0, locals := 240 }, 0, 0)
def my_Md_start : MethodName := ⟨"AddressClaimBusModel", "start", "(IJI)Z"⟩
def mi_Md_start : zxM := ("AddressClaimBusModel", "start", prog_9_method_19_code, 6, (some FieldType.boolean), { frames := 3, cells := 0, slots := 0, locals := 120 }, 0, 0)
def my_Md_stop : MethodName := ⟨"AddressClaimBusModel", "stop", "(I)Z"⟩
def mi_Md_stop : zxM := ("AddressClaimBusModel", "stop", prog_9_method_20_code, 3, (some FieldType.boolean), { frames := 1, cells := 0, slots := 0, locals := 40 }, 0, 0)
def my_Md_busy : MethodName := ⟨"AddressClaimBusModel", "busy", "(IZ)Z"⟩
def mi_Md_busy : zxM := ("AddressClaimBusModel", "busy", prog_9_method_21_code, 3, (some FieldType.boolean), { frames := 0, cells := 0, slots := 0, locals := 0 }, 0, 0)
def my_Md_state : MethodName := ⟨"AddressClaimBusModel", "state", "(I)I"⟩
def mi_Md_state : zxM := ("AddressClaimBusModel", "state", prog_9_method_22_code, 2, (some FieldType.int), { frames := 0, cells := 0, slots := 0, locals := 0 }, 0, 0)
def my_Md_address : MethodName := ⟨"AddressClaimBusModel", "address", "(I)I"⟩
def mi_Md_address : zxM := ("AddressClaimBusModel", "address", prog_9_method_23_code, 2, (some FieldType.int), { frames := 1, cells := 0, slots := 0, locals := 40 }, 0, 0)
def my_Md_noted : MethodName := ⟨"AddressClaimBusModel", "noted", "(II)I"⟩
def mi_Md_noted : zxM := ("AddressClaimBusModel", "noted", prog_9_method_24_code, 3, (some FieldType.int), { frames := 1, cells := 0, slots := 0, locals := 40 }, 0, 0)
def my_Md_request : MethodName := ⟨"AddressClaimBusModel", "request", "(I)Z"⟩
def mi_Md_request : zxM := ("AddressClaimBusModel", "request", prog_9_method_25_code, 2, (some FieldType.boolean), { frames := 2, cells := 0, slots := 0, locals := 80 }, 0, 0)
def my_Md_below : MethodName := ⟨"AddressClaimBusModel", "below", "(JJ)Z"⟩
def mi_Md_below : zxM := ("AddressClaimBusModel", "below", prog_9_method_26_code, 4, (some FieldType.boolean), { frames := 0, cells := 0, slots := 0, locals := 0 }, 0, 0)
def my_Md_claimed : MethodName := ⟨"AddressClaimBusModel", "claimed", "(IIIJ)V"⟩
def mi_Md_claimed : zxM := ("AddressClaimBusModel", "claimed", prog_9_method_27_code, 7, none, { frames := 3, cells := 0, slots := 0, locals := 120 }, 0, 0)
def my_Md_spare : MethodName := ⟨"AddressClaimBusModel", "spare", "(I)I"⟩
def mi_Md_spare : zxM := ("AddressClaimBusModel", "spare", prog_9_method_28_code, 5, (some FieldType.int), { frames := 0, cells := 0, slots := 0, locals := 0 }, 0, 0)
def my_Md_send : MethodName := ⟨"AddressClaimBusModel", "send", "(IIIIJ)Z"⟩
def mi_Md_send : zxM := ("AddressClaimBusModel", "send", prog_9_method_29_code, 8, (some FieldType.boolean), { frames := 3, cells := 0, slots := 0, locals := 120 }, 0, 0)
def my_Md_finish : MethodName := ⟨"AddressClaimBusModel", "finish", "(II)V"⟩
def mi_Md_finish : zxM := ("AddressClaimBusModel", "finish", prog_9_method_30_code, 3, none, { frames := 0, cells := 0, slots := 0, locals := 0 }, 0, 0)
def my_Md_control : MethodName := ⟨"AddressClaimBusModel", "control", "(IIIJ)V"⟩
def mi_Md_control : zxM := ("AddressClaimBusModel", "control", prog_9_method_31_code, 12, none, { frames := 5, cells := 0, slots := 0, locals := 200 }, 0, 0)
def my_Md_granted : MethodName := ⟨"AddressClaimBusModel", "granted", "(III)V"⟩
def mi_Md_granted : zxM := ("AddressClaimBusModel", "granted", prog_9_method_32_code, 5, none, { frames := 3, cells := 0, slots := 0, locals := 120 }, 0, 0)
def my_Md_find : MethodName := ⟨"AddressClaimBusModel", "find", "(IIZ)I"⟩
def mi_Md_find : zxM := ("AddressClaimBusModel", "find", prog_9_method_33_code, 5, (some FieldType.int), { frames := 0, cells := 0, slots := 0, locals := 0 }, 0, 0)
def my_Md_close : MethodName := ⟨"AddressClaimBusModel", "close", "(II)V"⟩
def mi_Md_close : zxM := ("AddressClaimBusModel", "close", prog_9_method_34_code, 5, none, { frames := 0, cells := 0, slots := 0, locals := 0 }, 0, 0)
def my_Md_opened : MethodName := ⟨"AddressClaimBusModel", "opened", "(IIIIZ)V"⟩
def mi_Md_opened : zxM := ("AddressClaimBusModel", "opened", prog_9_method_35_code, 8, none, { frames := 4, cells := 0, slots := 0, locals := 160 }, 0, 0)
def my_Md_grant : MethodName := ⟨"AddressClaimBusModel", "grant", "(II)V"⟩
def mi_Md_grant : zxM := ("AddressClaimBusModel", "grant", prog_9_method_36_code, 5, none, { frames := 3, cells := 0, slots := 0, locals := 120 }, 0, 0)
def my_Md_askAgain : MethodName := ⟨"AddressClaimBusModel", "askAgain", "(III)V"⟩
def mi_Md_askAgain : zxM := ("AddressClaimBusModel", "askAgain", prog_9_method_37_code, 4, none, { frames := 4, cells := 0, slots := 0, locals := 160 }, 0, 0)
def my_Md_packet : MethodName := ⟨"AddressClaimBusModel", "packet", "(IIIJ)V"⟩
def mi_Md_packet : zxM := ("AddressClaimBusModel", "packet", prog_9_method_38_code, 8, none, { frames := 5, cells := 0, slots := 0, locals := 200 }, 0, 0)
def my_Md_keep : MethodName := ⟨"AddressClaimBusModel", "keep", "(IIIJ)V"⟩
def mi_Md_keep : zxM := ("AddressClaimBusModel", "keep", prog_9_method_39_code, 8, none, { frames := 4, cells := 0, slots := 0, locals := 160 }, 0, 0)
def my_Md_due : MethodName := ⟨"AddressClaimBusModel", "due", "(I)I"⟩
def mi_Md_due : zxM := ("AddressClaimBusModel", "due", prog_9_method_40_code, 4, (some FieldType.int), { frames := 0, cells := 0, slots := 0, locals := 0 }, 0, 0)
def my_Md_goOff : MethodName := ⟨"AddressClaimBusModel", "goOff", "(I)V"⟩
def mi_Md_goOff : zxM := ("AddressClaimBusModel", "goOff", prog_9_method_41_code, 5, none, { frames := 5, cells := 0, slots := 0, locals := 200 }, 0, 0)
def my_Md_outgoingOff : MethodName := ⟨"AddressClaimBusModel", "outgoingOff", "(I)V"⟩
def mi_Md_outgoingOff : zxM := ("AddressClaimBusModel", "outgoingOff", prog_9_method_42_code, 2, none, { frames := 4, cells := 0, slots := 0, locals := 160 }, 0, 0)
def my_Md_tick : MethodName := ⟨"AddressClaimBusModel", "tick", "(I)I"⟩
def mi_Md_tick : zxM := ("AddressClaimBusModel", "tick", prog_9_method_43_code, 6, (some FieldType.int), { frames := 6, cells := 0, slots := 0, locals := 240 }, 0, 0)
def my_Md_outgoing : MethodName := ⟨"AddressClaimBusModel", "outgoing", "(I)I"⟩
def mi_Md_outgoing : zxM := ("AddressClaimBusModel", "outgoing", prog_9_method_44_code, 2, (some FieldType.int), { frames := 1, cells := 0, slots := 0, locals := 40 }, 0, 0)
def my_Md_incoming : MethodName := ⟨"AddressClaimBusModel", "incoming", "(I)I"⟩
def mi_Md_incoming : zxM := ("AddressClaimBusModel", "incoming", prog_9_method_45_code, 2, (some FieldType.int), { frames := 1, cells := 0, slots := 0, locals := 40 }, 0, 0)
def my_Md_delivered : MethodName := ⟨"AddressClaimBusModel", "delivered", "(I)I"⟩
def mi_Md_delivered : zxM := ("AddressClaimBusModel", "delivered", prog_9_method_46_code, 2, (some FieldType.int), { frames := 1, cells := 0, slots := 0, locals := 40 }, 0, 0)
def my_Md_message : MethodName := ⟨"AddressClaimBusModel", "message", "(II)I"⟩
def mi_Md_message : zxM := ("AddressClaimBusModel", "message", prog_9_method_47_code, 3, (some FieldType.int), { frames := 1, cells := 0, slots := 0, locals := 40 }, 0, 0)
def my_Md_byteOf : MethodName := ⟨"AddressClaimBusModel", "byteOf", "(II)I"⟩
def mi_Md_byteOf : zxM := ("AddressClaimBusModel", "byteOf", prog_9_method_48_code, 3, (some FieldType.int), { frames := 1, cells := 0, slots := 0, locals := 40 }, 0, 0)
def my_Bu_init : MethodName := ⟨"AddressClaimBus$Bus", "<init>", "()V"⟩
def mi_Bu_init : zxM := ("AddressClaimBus$Bus", "<init>", prog_2_method_1_code, 1, none, { frames := 1, cells := 3, slots := 144, locals := 40 }, 3, 144)
def my_Bu_put : MethodName := ⟨"AddressClaimBus$Bus", "put", "(LAddressClaimBus$Station;IIJ)V"⟩
def mi_Bu_put : zxM := ("AddressClaimBus$Bus", "put", prog_2_method_2_code, 6, none, { frames := 0, cells := 0, slots := 0, locals := 0 }, 0, 0)
def my_Bu_placeOfNext : MethodName := ⟨"AddressClaimBus$Bus", "placeOfNext", "()I"⟩
def mi_Bu_placeOfNext : zxM := ("AddressClaimBus$Bus", "placeOfNext", prog_2_method_3_code, 3, (some FieldType.int), { frames := 0, cells := 0, slots := 0, locals := 0 }, 0, 0)
def my_Bu_takeAway : MethodName := ⟨"AddressClaimBus$Bus", "takeAway", "(I)V"⟩
def mi_Bu_takeAway : zxM := ("AddressClaimBus$Bus", "takeAway", prog_2_method_4_code, 3, none, { frames := 1, cells := 0, slots := 0, locals := 40 }, 0, 0)
def my_Bu_takeAwayFramesOf : MethodName := ⟨"AddressClaimBus$Bus", "takeAwayFramesOf", "(I)V"⟩
def mi_Bu_takeAwayFramesOf : zxM := ("AddressClaimBus$Bus", "takeAwayFramesOf", prog_2_method_5_code, 4, none, { frames := 1, cells := 0, slots := 0, locals := 40 }, 0, 0)
def my_Bu_move : MethodName := ⟨"AddressClaimBus$Bus", "move", "(II)V"⟩
def mi_Bu_move : zxM := ("AddressClaimBus$Bus", "move", prog_2_method_6_code, 3, none, { frames := 0, cells := 0, slots := 0, locals := 0 }, 0, 0)
def my_Fu_init : MethodName := ⟨"AddressClaimBus$Function", "<init>", "(LAddressClaimBus$Bus;LAddressClaimBus$Station;)V"⟩
def mi_Fu_init : zxM := ("AddressClaimBus$Function", "<init>", prog_3_method_1_code, 4, none, { frames := 3, cells := 11, slots := 71, locals := 120 }, 11, 71)
def my_Fu_switchOn : MethodName := ⟨"AddressClaimBus$Function", "switchOn", "(JI)V"⟩
def mi_Fu_switchOn : zxM := ("AddressClaimBus$Function", "switchOn", prog_3_method_2_code, 5, none, { frames := 3, cells := 0, slots := 0, locals := 120 }, 0, 0)
def my_Fu_switchOff : MethodName := ⟨"AddressClaimBus$Function", "switchOff", "()V"⟩
def mi_Fu_switchOff : zxM := ("AddressClaimBus$Function", "switchOff", prog_3_method_3_code, 1, none, { frames := 2, cells := 0, slots := 0, locals := 80 }, 0, 0)
def my_Fu_canSendTo : MethodName := ⟨"AddressClaimBus$Function", "canSendTo", "(I)Z"⟩
def mi_Fu_canSendTo : zxM := ("AddressClaimBus$Function", "canSendTo", prog_3_method_4_code, 3, (some FieldType.boolean), { frames := 0, cells := 0, slots := 0, locals := 0 }, 0, 0)
def my_Fu_countIncoming : MethodName := ⟨"AddressClaimBus$Function", "countIncoming", "()I"⟩
def mi_Fu_countIncoming : zxM := ("AddressClaimBus$Function", "countIncoming", prog_3_method_5_code, 3, (some FieldType.int), { frames := 0, cells := 0, slots := 0, locals := 0 }, 0, 0)
def my_Fu_reach : MethodName := ⟨"AddressClaimBus$Function", "reach", "(IIJ)V"⟩
def mi_Fu_reach : zxM := ("AddressClaimBus$Function", "reach", prog_3_method_6_code, 8, none, { frames := 5, cells := 0, slots := 0, locals := 200 }, 0, 0)
def my_Fu_nextDue : MethodName := ⟨"AddressClaimBus$Function", "nextDue", "()J"⟩
def mi_Fu_nextDue : zxM := ("AddressClaimBus$Function", "nextDue", prog_3_method_7_code, 4, (some FieldType.long), { frames := 1, cells := 0, slots := 0, locals := 40 }, 0, 0)
def my_Fu_goOff : MethodName := ⟨"AddressClaimBus$Function", "goOff", "()V"⟩
def mi_Fu_goOff : zxM := ("AddressClaimBus$Function", "goOff", prog_3_method_8_code, 3, none, { frames := 4, cells := 0, slots := 0, locals := 160 }, 0, 0)
def my_Fu_claim : MethodName := ⟨"AddressClaimBus$Function", "claim", "(I)V"⟩
def mi_Fu_claim : zxM := ("AddressClaimBus$Function", "claim", prog_3_method_9_code, 2, none, { frames := 2, cells := 0, slots := 0, locals := 80 }, 0, 0)
def my_Fu_sendClaim : MethodName := ⟨"AddressClaimBus$Function", "sendClaim", "()V"⟩
def mi_Fu_sendClaim : zxM := ("AddressClaimBus$Function", "sendClaim", prog_3_method_10_code, 1, none, { frames := 1, cells := 0, slots := 0, locals := 40 }, 0, 0)
def my_Fu_takeClaim : MethodName := ⟨"AddressClaimBus$Function", "takeClaim", "(IIJ)V"⟩
def mi_Fu_takeClaim : zxM := ("AddressClaimBus$Function", "takeClaim", prog_3_method_11_code, 5, none, { frames := 4, cells := 0, slots := 0, locals := 160 }, 0, 0)
def my_Fu_isNameLessThan : MethodName := ⟨"AddressClaimBus$Function", "isNameLessThan", "(J)Z"⟩
def mi_Fu_isNameLessThan : zxM := ("AddressClaimBus$Function", "isNameLessThan", prog_3_method_12_code, 3, (some FieldType.boolean), { frames := 0, cells := 0, slots := 0, locals := 0 }, 0, 0)
def my_Fu_loseAddress : MethodName := ⟨"AddressClaimBus$Function", "loseAddress", "()V"⟩
def mi_Fu_loseAddress : zxM := ("AddressClaimBus$Function", "loseAddress", prog_3_method_13_code, 2, none, { frames := 3, cells := 0, slots := 0, locals := 120 }, 0, 0)
def my_Fu_spareAddress : MethodName := ⟨"AddressClaimBus$Function", "spareAddress", "()I"⟩
def mi_Fu_spareAddress : zxM := ("AddressClaimBus$Function", "spareAddress", prog_3_method_14_code, 2, (some FieldType.int), { frames := 1, cells := 0, slots := 0, locals := 40 }, 0, 0)
def my_Fu_isNoted : MethodName := ⟨"AddressClaimBus$Function", "isNoted", "(I)Z"⟩
def mi_Fu_isNoted : zxM := ("AddressClaimBus$Function", "isNoted", prog_3_method_15_code, 3, (some FieldType.boolean), { frames := 0, cells := 0, slots := 0, locals := 0 }, 0, 0)
def my_Fu_endSessions : MethodName := ⟨"AddressClaimBus$Function", "endSessions", "()V"⟩
def mi_Fu_endSessions : zxM := ("AddressClaimBus$Function", "endSessions", prog_3_method_16_code, 2, none, { frames := 1, cells := 0, slots := 0, locals := 40 }, 0, 0)
def my_Fu_takeControl : MethodName := ⟨"AddressClaimBus$Function", "takeControl", "(IJ)V"⟩
def mi_Fu_takeControl : zxM := ("AddressClaimBus$Function", "takeControl", prog_3_method_17_code, 7, none, { frames := 4, cells := 0, slots := 0, locals := 160 }, 0, 0)
def my_Fu_takeOpening : MethodName := ⟨"AddressClaimBus$Function", "takeOpening", "(IIJZ)V"⟩
def mi_Fu_takeOpening : zxM := ("AddressClaimBus$Function", "takeOpening", prog_3_method_18_code, 7, none, { frames := 3, cells := 0, slots := 0, locals := 120 }, 0, 0)
def my_Fu_roomForIncoming : MethodName := ⟨"AddressClaimBus$Function", "roomForIncoming", "()LAddressClaimBus$Incoming;"⟩
def mi_Fu_roomForIncoming : zxM := ("AddressClaimBus$Function", "roomForIncoming", prog_3_method_19_code, 2, (some (FieldType.object "AddressClaimBus$Incoming")), { frames := 0, cells := 0, slots := 0, locals := 0 }, 0, 0)
def my_Fu_abortIncoming : MethodName := ⟨"AddressClaimBus$Function", "abortIncoming", "(II)V"⟩
def mi_Fu_abortIncoming : zxM := ("AddressClaimBus$Function", "abortIncoming", prog_3_method_20_code, 4, none, { frames := 1, cells := 0, slots := 0, locals := 40 }, 0, 0)
def my_Fu_takePacket : MethodName := ⟨"AddressClaimBus$Function", "takePacket", "(IZJ)V"⟩
def mi_Fu_takePacket : zxM := ("AddressClaimBus$Function", "takePacket", prog_3_method_21_code, 8, none, { frames := 4, cells := 0, slots := 0, locals := 160 }, 0, 0)
def my_In_init : MethodName := ⟨"AddressClaimBus$Incoming", "<init>", "(LAddressClaimBus$Bus;LAddressClaimBus$Station;)V"⟩
def mi_In_init : zxM := ("AddressClaimBus$Incoming", "<init>", prog_4_method_1_code, 3, none, { frames := 2, cells := 2, slots := 12, locals := 80 }, 2, 12)
def my_In_begin : MethodName := ⟨"AddressClaimBus$Incoming", "begin", "(IIIZ)V"⟩
def mi_In_begin : zxM := ("AddressClaimBus$Incoming", "begin", prog_4_method_2_code, 5, none, { frames := 2, cells := 0, slots := 0, locals := 80 }, 0, 0)
def my_In_end : MethodName := ⟨"AddressClaimBus$Incoming", "end", "()V"⟩
def mi_In_end : zxM := ("AddressClaimBus$Incoming", "end", prog_4_method_3_code, 1, none, { frames := 0, cells := 0, slots := 0, locals := 0 }, 0, 0)
def my_In_isFrom : MethodName := ⟨"AddressClaimBus$Incoming", "isFrom", "(IZ)Z"⟩
def mi_In_isFrom : zxM := ("AddressClaimBus$Incoming", "isFrom", prog_4_method_4_code, 3, (some FieldType.boolean), { frames := 0, cells := 0, slots := 0, locals := 0 }, 0, 0)
def my_In_goOff : MethodName := ⟨"AddressClaimBus$Incoming", "goOff", "()V"⟩
def mi_In_goOff : zxM := ("AddressClaimBus$Incoming", "goOff", prog_4_method_5_code, 1, none, { frames := 3, cells := 0, slots := 0, locals := 120 }, 0, 0)
def my_In_takeToAll : MethodName := ⟨"AddressClaimBus$Incoming", "takeToAll", "(J)Z"⟩
def mi_In_takeToAll : zxM := ("AddressClaimBus$Incoming", "takeToAll", prog_4_method_6_code, 4, (some FieldType.boolean), { frames := 2, cells := 0, slots := 0, locals := 80 }, 0, 0)
def my_In_takeDirected : MethodName := ⟨"AddressClaimBus$Incoming", "takeDirected", "(J)Z"⟩
def mi_In_takeDirected : zxM := ("AddressClaimBus$Incoming", "takeDirected", prog_4_method_7_code, 4, (some FieldType.boolean), { frames := 3, cells := 0, slots := 0, locals := 120 }, 0, 0)
def my_In_keepExpected : MethodName := ⟨"AddressClaimBus$Incoming", "keepExpected", "(J)V"⟩
def mi_In_keepExpected : zxM := ("AddressClaimBus$Incoming", "keepExpected", prog_4_method_8_code, 3, none, { frames := 1, cells := 0, slots := 0, locals := 40 }, 0, 0)
def my_In_isWhole : MethodName := ⟨"AddressClaimBus$Incoming", "isWhole", "()Z"⟩
def mi_In_isWhole : zxM := ("AddressClaimBus$Incoming", "isWhole", prog_4_method_9_code, 1, (some FieldType.boolean), { frames := 1, cells := 0, slots := 0, locals := 40 }, 0, 0)
def my_In_askAgain : MethodName := ⟨"AddressClaimBus$Incoming", "askAgain", "(I)V"⟩
def mi_In_askAgain : zxM := ("AddressClaimBus$Incoming", "askAgain", prog_4_method_10_code, 2, none, { frames := 2, cells := 0, slots := 0, locals := 80 }, 0, 0)
def my_In_grant : MethodName := ⟨"AddressClaimBus$Incoming", "grant", "()V"⟩
def mi_In_grant : zxM := ("AddressClaimBus$Incoming", "grant", prog_4_method_11_code, 5, none, { frames := 1, cells := 0, slots := 0, locals := 40 }, 0, 0)
def my_Ms_init : MethodName := ⟨"AddressClaimBus$Message", "<init>", "()V"⟩
def mi_Ms_init : zxM := ("AddressClaimBus$Message", "<init>", prog_5_method_1_code, 1, none, { frames := 1, cells := 1, slots := 7, locals := 40 }, 1, 7)
def my_Ms_keep : MethodName := ⟨"AddressClaimBus$Message", "keep", "(IJ)V"⟩
def mi_Ms_keep : zxM := ("AddressClaimBus$Message", "keep", prog_5_method_2_code, 4, none, { frames := 0, cells := 0, slots := 0, locals := 0 }, 0, 0)
def my_Ms_copy : MethodName := ⟨"AddressClaimBus$Message", "copy", "(LAddressClaimBus$Message;)V"⟩
def mi_Ms_copy : zxM := ("AddressClaimBus$Message", "copy", prog_5_method_3_code, 3, none, { frames := 0, cells := 0, slots := 0, locals := 0 }, 0, 0)
def my_Ms_byteAt : MethodName := ⟨"AddressClaimBus$Message", "byteAt", "(I)I"⟩
def mi_Ms_byteAt : zxM := ("AddressClaimBus$Message", "byteAt", prog_5_method_4_code, 2, (some FieldType.int), { frames := 1, cells := 0, slots := 0, locals := 40 }, 0, 0)
def my_Ou_init : MethodName := ⟨"AddressClaimBus$Outgoing", "<init>", "(LAddressClaimBus$Bus;LAddressClaimBus$Station;)V"⟩
def mi_Ou_init : zxM := ("AddressClaimBus$Outgoing", "<init>", prog_6_method_1_code, 3, none, { frames := 1, cells := 0, slots := 0, locals := 40 }, 0, 0)
def my_Ou_begin : MethodName := ⟨"AddressClaimBus$Outgoing", "begin", "(IIIJ)V"⟩
def mi_Ou_begin : zxM := ("AddressClaimBus$Outgoing", "begin", prog_6_method_2_code, 7, none, { frames := 2, cells := 0, slots := 0, locals := 80 }, 0, 0)
def my_Ou_end : MethodName := ⟨"AddressClaimBus$Outgoing", "end", "(I)V"⟩
def mi_Ou_end : zxM := ("AddressClaimBus$Outgoing", "end", prog_6_method_3_code, 2, none, { frames := 0, cells := 0, slots := 0, locals := 0 }, 0, 0)
def my_Ou_isWith : MethodName := ⟨"AddressClaimBus$Outgoing", "isWith", "(II)Z"⟩
def mi_Ou_isWith : zxM := ("AddressClaimBus$Outgoing", "isWith", prog_6_method_4_code, 3, (some FieldType.boolean), { frames := 0, cells := 0, slots := 0, locals := 0 }, 0, 0)
def my_Ou_takeGrant : MethodName := ⟨"AddressClaimBus$Outgoing", "takeGrant", "(II)V"⟩
def mi_Ou_takeGrant : zxM := ("AddressClaimBus$Outgoing", "takeGrant", prog_6_method_5_code, 5, none, { frames := 2, cells := 0, slots := 0, locals := 80 }, 0, 0)
def my_Ou_goOff : MethodName := ⟨"AddressClaimBus$Outgoing", "goOff", "()V"⟩
def mi_Ou_goOff : zxM := ("AddressClaimBus$Outgoing", "goOff", prog_6_method_6_code, 1, none, { frames := 3, cells := 0, slots := 0, locals := 120 }, 0, 0)
def my_Ou_sendNextToAll : MethodName := ⟨"AddressClaimBus$Outgoing", "sendNextToAll", "()V"⟩
def mi_Ou_sendNextToAll : zxM := ("AddressClaimBus$Outgoing", "sendNextToAll", prog_6_method_7_code, 1, none, { frames := 2, cells := 0, slots := 0, locals := 80 }, 0, 0)
def my_Ou_sendPacket : MethodName := ⟨"AddressClaimBus$Outgoing", "sendPacket", "(I)V"⟩
def mi_Ou_sendPacket : zxM := ("AddressClaimBus$Outgoing", "sendPacket", prog_6_method_8_code, 8, none, { frames := 1, cells := 0, slots := 0, locals := 40 }, 0, 0)
def my_St_init : MethodName := ⟨"AddressClaimBus$Station", "<init>", "(I)V"⟩
def mi_St_init : zxM := ("AddressClaimBus$Station", "<init>", prog_7_method_1_code, 2, none, { frames := 1, cells := 0, slots := 0, locals := 40 }, 0, 0)
def mi_La_law : zxM := ("AddressClaimBusLaw", "law", code, maxLocals, ret, room_1, 600000, 7302250)
theorem cw_Ab_obj : Cond.methodLink "AddressClaimBus" 3 objectInit ∈ zx_T ∧ Cond.instanceMethod objectInit ∈ zx_T ∧ Cond.code objectInit ⟨#[0xb1]⟩ 1 none ∈ zx_T := ⟨wd_15, wd_16, wd_17⟩
theorem nw_Ab_9 : Cond.classLink "AddressClaimBus" 9 "AddressClaimBus$Bus" ∈ zx_T ∧ Cond.instantiable "AddressClaimBus$Bus" 6 ∈ zx_T ∧ Cond.initialized "AddressClaimBus$Bus" ∈ zx_T := ⟨wd_18, wd_19, wd_2⟩
theorem ci_Ab_init_11 : zx_CJ mi_Ab_init mi_Bu_init 11 my_Bu_init 0 := ⟨⟨List.mem_of_getElem? (i := 0) rfl, wd_21, wd_2, wd_22⟩, rfl, rfl, ⟨by decide, by decide, by decide +kernel⟩, ⟨rfl, rfl, by decide, by decide⟩⟩
theorem fl_Ab_12 : zx_Fl "AddressClaimBus" 12 6 0 (.object "AddressClaimBus$Bus") true := ⟨_, _, _, _, kc_Ab, by decide, wd_235, rfl, rfl, rfl⟩
theorem na_Ab_16 : Cond.classLink "AddressClaimBus" 16 "AddressClaimBus$Function" ∈ zx_T ∧ "AddressClaimBus$Function" ∈ zx_AO := ⟨wd_53, by decide⟩
theorem fl_Ab_18 : zx_Fl "AddressClaimBus" 18 6 1 (.array (.object "AddressClaimBus$Function")) true := ⟨_, _, _, _, kc_Ab, by decide, wd_236, rfl, rfl, rfl⟩
theorem nw_Ab_16 : Cond.classLink "AddressClaimBus" 16 "AddressClaimBus$Function" ∈ zx_T ∧ Cond.instantiable "AddressClaimBus$Function" 10 ∈ zx_T ∧ Cond.initialized "AddressClaimBus$Function" ∈ zx_T := ⟨wd_53, wd_55, wd_3⟩
theorem nw_Ab_22 : Cond.classLink "AddressClaimBus" 22 "AddressClaimBus$Station" ∈ zx_T ∧ Cond.instantiable "AddressClaimBus$Station" 3 ∈ zx_T ∧ Cond.initialized "AddressClaimBus$Station" ∈ zx_T := ⟨wd_56, wd_57, wd_4⟩
theorem ci_Ab_init_24 : zx_CI mi_Ab_init mi_St_init 24 my_St_init 1 := ⟨⟨wd_58, wd_59, wd_4, wd_60⟩, rfl, rfl, ⟨by decide, by decide, by decide +kernel⟩, ⟨rfl, rfl, by decide, by decide⟩⟩
theorem ci_Ab_init_27 : zx_CI mi_Ab_init mi_Fu_init 27 my_Fu_init 2 := ⟨⟨wd_77, wd_78, wd_3, wd_79⟩, rfl, rfl, ⟨by decide, by decide, by decide +kernel⟩, ⟨rfl, rfl, by decide, by decide⟩⟩
theorem cv_Ab_start_30 : zx_CV mi_Ab_start mi_Ab_isFunction 30 my_Ab_isFunction 1 := ⟨⟨wd_246, wd_248, wp_0, wd_1, wd_249⟩, rfl, ⟨by decide, by decide, by decide +kernel⟩, ⟨rfl, rfl, by decide, by decide⟩⟩
theorem cv_Ab_start_34 : zx_CV mi_Ab_start mi_Ab_isOn 34 my_Ab_isOn 1 := ⟨⟨wd_250, wd_252, wp_1, wd_1, wd_253⟩, rfl, ⟨by decide, by decide, by decide +kernel⟩, ⟨rfl, rfl, by decide, by decide⟩⟩
theorem cv_Ab_start_37 : zx_CV mi_Ab_start mi_Ab_isNameTaken 37 my_Ab_isNameTaken 1 := ⟨⟨wd_254, wd_256, wp_2, wd_1, wd_257⟩, rfl, ⟨by decide, by decide, by decide +kernel⟩, ⟨rfl, rfl, by decide, by decide⟩⟩
theorem cv_Ab_start_41 : zx_CV mi_Ab_start mi_Fu_switchOn 41 my_Fu_switchOn 2 := ⟨⟨wd_258, wd_259, wd_260, wd_3, wd_261⟩, rfl, ⟨by decide, by decide, by decide +kernel⟩, ⟨rfl, rfl, by decide, by decide⟩⟩
theorem cv_Ab_stop_34 : zx_CV mi_Ab_stop mi_Ab_isOn 34 my_Ab_isOn 1 := ⟨⟨wd_250, wd_252, wp_1, wd_1, wd_253⟩, rfl, ⟨by decide, by decide, by decide +kernel⟩, ⟨rfl, rfl, by decide, by decide⟩⟩
theorem cv_Ab_stop_45 : zx_CV mi_Ab_stop mi_Fu_switchOff 45 my_Fu_switchOff 0 := ⟨⟨wd_280, wd_281, wd_282, wd_3, wd_283⟩, rfl, ⟨by decide, by decide, by decide +kernel⟩, ⟨rfl, rfl, by decide, by decide⟩⟩
theorem cv_Ab_busy_30 : zx_CV mi_Ab_busy mi_Ab_isFunction 30 my_Ab_isFunction 1 := ⟨⟨wd_246, wd_248, wp_0, wd_1, wd_249⟩, rfl, ⟨by decide, by decide, by decide +kernel⟩, ⟨rfl, rfl, by decide, by decide⟩⟩
theorem fl_Ab_48 : zx_Fl "AddressClaimBus" 48 1 1 (.object "AddressClaimBus$Station") true := ⟨_, _, _, _, kc_Fu, by decide, wd_199, rfl, rfl, rfl⟩
theorem fl_Ab_52 : zx_Fl "AddressClaimBus" 52 5 2 .boolean false := ⟨_, _, _, _, kc_St, by decide, wd_68, rfl, rfl, rfl⟩
theorem cv_Ab_state_30 : zx_CV mi_Ab_state mi_Ab_isFunction 30 my_Ab_isFunction 1 := ⟨⟨wd_246, wd_248, wp_0, wd_1, wd_249⟩, rfl, ⟨by decide, by decide, by decide +kernel⟩, ⟨rfl, rfl, by decide, by decide⟩⟩
theorem fl_Ab_56 : zx_Fl "AddressClaimBus" 56 1 7 .int false := ⟨_, _, _, _, kc_Fu, by decide, wd_210, rfl, rfl, rfl⟩
theorem cv_Ab_address_34 : zx_CV mi_Ab_address mi_Ab_isOn 34 my_Ab_isOn 1 := ⟨⟨wd_250, wd_252, wp_1, wd_1, wd_253⟩, rfl, ⟨by decide, by decide, by decide +kernel⟩, ⟨rfl, rfl, by decide, by decide⟩⟩
theorem fl_Ab_60 : zx_Fl "AddressClaimBus" 60 5 1 .int false := ⟨_, _, _, _, kc_St, by decide, wd_67, rfl, rfl, rfl⟩
theorem cv_Ab_noted_34 : zx_CV mi_Ab_noted mi_Ab_isOn 34 my_Ab_isOn 1 := ⟨⟨wd_250, wd_252, wp_1, wd_1, wd_253⟩, rfl, ⟨by decide, by decide, by decide +kernel⟩, ⟨rfl, rfl, by decide, by decide⟩⟩
theorem cv_Ab_noted_30 : zx_CV mi_Ab_noted mi_Ab_isFunction 30 my_Ab_isFunction 1 := ⟨⟨wd_246, wd_248, wp_0, wd_1, wd_249⟩, rfl, ⟨by decide, by decide, by decide +kernel⟩, ⟨rfl, rfl, by decide, by decide⟩⟩
theorem fl_Ab_63 : zx_Fl "AddressClaimBus" 63 1 2 (.array .int) true := ⟨_, _, _, _, kc_Fu, by decide, wd_201, rfl, rfl, rfl⟩
theorem cv_Ab_request_34 : zx_CV mi_Ab_request mi_Ab_isOn 34 my_Ab_isOn 1 := ⟨⟨wd_250, wd_252, wp_1, wd_1, wd_253⟩, rfl, ⟨by decide, by decide, by decide +kernel⟩, ⟨rfl, rfl, by decide, by decide⟩⟩
theorem kk_Ab_67 : Cond.constant "AddressClaimBus" 67 (nI 417988608) ∈ zx_T := wd_324
theorem kk_Ab_68 : Cond.constantLong "AddressClaimBus" 68 (lN 60928) ∈ zx_T := wd_325
theorem cv_Ab_request_70 : zx_CV mi_Ab_request mi_Bu_put 70 my_Bu_put 4 := ⟨⟨wd_326, wd_273, wd_274, wd_2, wd_275⟩, rfl, ⟨by decide, by decide, by decide +kernel⟩, ⟨rfl, rfl, by decide, by decide⟩⟩
theorem cv_Ab_send_30 : zx_CV mi_Ab_send mi_Ab_isFunction 30 my_Ab_isFunction 1 := ⟨⟨wd_246, wd_248, wp_0, wd_1, wd_249⟩, rfl, ⟨by decide, by decide, by decide +kernel⟩, ⟨rfl, rfl, by decide, by decide⟩⟩
theorem cv_Ab_send_74 : zx_CV mi_Ab_send mi_Fu_canSendTo 74 my_Fu_canSendTo 1 := ⟨⟨wd_331, wd_332, wd_333, wd_3, wd_334⟩, rfl, ⟨by decide, by decide, by decide +kernel⟩, ⟨rfl, rfl, by decide, by decide⟩⟩
theorem kk_Ab_77 : Cond.constant "AddressClaimBus" 77 (nI 262143) ∈ zx_T := wd_335
theorem fl_Ab_78 : zx_Fl "AddressClaimBus" 78 1 3 (.object "AddressClaimBus$Outgoing") true := ⟨_, _, _, _, kc_Fu, by decide, wd_203, rfl, rfl, rfl⟩
theorem cv_Ab_send_82 : zx_CV mi_Ab_send mi_Ou_begin 82 my_Ou_begin 4 := ⟨⟨wd_336, wd_337, wd_338, wd_6, wd_339⟩, rfl, ⟨by decide, by decide, by decide +kernel⟩, ⟨rfl, rfl, by decide, by decide⟩⟩
theorem fl_Ab_88 : zx_Fl "AddressClaimBus" 88 0 3 .int false := ⟨_, _, _, _, kc_Bu, by decide, wd_31, rfl, rfl, rfl⟩
theorem cv_Ab_identifier_91 : zx_CV mi_Ab_identifier mi_Bu_placeOfNext 91 my_Bu_placeOfNext 0 := ⟨⟨wd_360, wd_361, wd_362, wd_2, wd_363⟩, rfl, ⟨by decide, by decide, by decide +kernel⟩, ⟨rfl, rfl, by decide, by decide⟩⟩
theorem fl_Ab_95 : zx_Fl "AddressClaimBus" 95 0 0 (.array .int) true := ⟨_, _, _, _, kc_Bu, by decide, wd_25, rfl, rfl, rfl⟩
theorem cv_Ab_data_91 : zx_CV mi_Ab_data mi_Bu_placeOfNext 91 my_Bu_placeOfNext 0 := ⟨⟨wd_360, wd_361, wd_362, wd_2, wd_363⟩, rfl, ⟨by decide, by decide, by decide +kernel⟩, ⟨rfl, rfl, by decide, by decide⟩⟩
theorem fl_Ab_98 : zx_Fl "AddressClaimBus" 98 0 1 (.array .long) true := ⟨_, _, _, _, kc_Bu, by decide, wd_27, rfl, rfl, rfl⟩
theorem cv_Ab_deliver_91 : zx_CV mi_Ab_deliver mi_Bu_placeOfNext 91 my_Bu_placeOfNext 0 := ⟨⟨wd_360, wd_361, wd_362, wd_2, wd_363⟩, rfl, ⟨by decide, by decide, by decide +kernel⟩, ⟨rfl, rfl, by decide, by decide⟩⟩
theorem fl_Ab_102 : zx_Fl "AddressClaimBus" 102 0 2 (.array .int) true := ⟨_, _, _, _, kc_Bu, by decide, wd_29, rfl, rfl, rfl⟩
theorem cv_Ab_deliver_105 : zx_CV mi_Ab_deliver mi_Bu_takeAway 105 my_Bu_takeAway 1 := ⟨⟨wd_372, wd_373, wd_374, wd_2, wd_375⟩, rfl, ⟨by decide, by decide, by decide +kernel⟩, ⟨rfl, rfl, by decide, by decide⟩⟩
theorem cv_Ab_deliver_108 : zx_CV mi_Ab_deliver mi_Fu_reach 108 my_Fu_reach 3 := ⟨⟨wd_376, wd_377, wd_378, wd_3, wd_379⟩, rfl, ⟨by decide, by decide, by decide +kernel⟩, ⟨rfl, rfl, by decide, by decide⟩⟩
theorem cv_Ab_lose_91 : zx_CV mi_Ab_lose mi_Bu_placeOfNext 91 my_Bu_placeOfNext 0 := ⟨⟨wd_360, wd_361, wd_362, wd_2, wd_363⟩, rfl, ⟨by decide, by decide, by decide +kernel⟩, ⟨rfl, rfl, by decide, by decide⟩⟩
theorem cv_Ab_lose_105 : zx_CV mi_Ab_lose mi_Bu_takeAway 105 my_Bu_takeAway 1 := ⟨⟨wd_372, wd_373, wd_374, wd_2, wd_375⟩, rfl, ⟨by decide, by decide, by decide +kernel⟩, ⟨rfl, rfl, by decide, by decide⟩⟩
theorem fl_Ab_112 : zx_Fl "AddressClaimBus" 112 0 4 .int false := ⟨_, _, _, _, kc_Bu, by decide, wd_33, rfl, rfl, rfl⟩
theorem fl_Ab_115 : zx_Fl "AddressClaimBus" 115 0 5 .long false := ⟨_, _, _, _, kc_Bu, by decide, wd_37, rfl, rfl, rfl⟩
theorem cv_Ab_tick_119 : zx_CV mi_Ab_tick mi_Ab_firstDue 119 my_Ab_firstDue 0 := ⟨⟨wd_514, wd_516, wp_22, wd_1, wd_517⟩, rfl, ⟨by decide, by decide, by decide +kernel⟩, ⟨rfl, rfl, by decide, by decide⟩⟩
theorem cv_Ab_tick_122 : zx_CV mi_Ab_tick mi_Fu_nextDue 122 my_Fu_nextDue 0 := ⟨⟨wd_518, wd_519, wd_520, wd_3, wd_521⟩, rfl, ⟨by decide, by decide, by decide +kernel⟩, ⟨rfl, rfl, by decide, by decide⟩⟩
theorem cv_Ab_tick_126 : zx_CV mi_Ab_tick mi_Fu_goOff 126 my_Fu_goOff 0 := ⟨⟨wd_525, wd_526, wd_527, wd_3, wd_528⟩, rfl, ⟨by decide, by decide, by decide +kernel⟩, ⟨rfl, rfl, by decide, by decide⟩⟩
theorem cv_Ab_outgoing_34 : zx_CV mi_Ab_outgoing mi_Ab_isOn 34 my_Ab_isOn 1 := ⟨⟨wd_250, wd_252, wp_1, wd_1, wd_253⟩, rfl, ⟨by decide, by decide, by decide +kernel⟩, ⟨rfl, rfl, by decide, by decide⟩⟩
theorem fl_Ab_129 : zx_Fl "AddressClaimBus" 129 4 2 .int false := ⟨_, _, _, _, kc_Ou, by decide, wd_126, rfl, rfl, rfl⟩
theorem fl_Ab_132 : zx_Fl "AddressClaimBus" 132 4 3 .int false := ⟨_, _, _, _, kc_Ou, by decide, wd_129, rfl, rfl, rfl⟩
theorem cv_Ab_incoming_34 : zx_CV mi_Ab_incoming mi_Ab_isOn 34 my_Ab_isOn 1 := ⟨⟨wd_250, wd_252, wp_1, wd_1, wd_253⟩, rfl, ⟨by decide, by decide, by decide +kernel⟩, ⟨rfl, rfl, by decide, by decide⟩⟩
theorem cv_Ab_incoming_135 : zx_CV mi_Ab_incoming mi_Fu_countIncoming 135 my_Fu_countIncoming 0 := ⟨⟨wd_552, wd_421, wd_422, wd_3, wd_423⟩, rfl, ⟨by decide, by decide, by decide +kernel⟩, ⟨rfl, rfl, by decide, by decide⟩⟩
theorem cv_Ab_delivered_34 : zx_CV mi_Ab_delivered mi_Ab_isOn 34 my_Ab_isOn 1 := ⟨⟨wd_250, wd_252, wp_1, wd_1, wd_253⟩, rfl, ⟨by decide, by decide, by decide +kernel⟩, ⟨rfl, rfl, by decide, by decide⟩⟩
theorem fl_Ab_138 : zx_Fl "AddressClaimBus" 138 1 6 .int false := ⟨_, _, _, _, kc_Fu, by decide, wd_208, rfl, rfl, rfl⟩
theorem cv_Ab_message_141 : zx_CV mi_Ab_message mi_Ab_hasMessage 141 my_Ab_hasMessage 1 := ⟨⟨wd_561, wd_563, wp_24, wd_1, wd_564⟩, rfl, ⟨by decide, by decide, by decide +kernel⟩, ⟨rfl, rfl, by decide, by decide⟩⟩
theorem fl_Ab_144 : zx_Fl "AddressClaimBus" 144 1 5 (.object "AddressClaimBus$Message") true := ⟨_, _, _, _, kc_Fu, by decide, wd_206, rfl, rfl, rfl⟩
theorem fl_Ab_148 : zx_Fl "AddressClaimBus" 148 3 1 .int false := ⟨_, _, _, _, kc_Ms, by decide, wd_92, rfl, rfl, rfl⟩
theorem fl_Ab_153 : zx_Fl "AddressClaimBus" 153 3 2 .int false := ⟨_, _, _, _, kc_Ms, by decide, wd_96, rfl, rfl, rfl⟩
theorem fl_Ab_156 : zx_Fl "AddressClaimBus" 156 3 3 .int false := ⟨_, _, _, _, kc_Ms, by decide, wd_99, rfl, rfl, rfl⟩
theorem fl_Ab_159 : zx_Fl "AddressClaimBus" 159 3 4 .boolean false := ⟨_, _, _, _, kc_Ms, by decide, wd_102, rfl, rfl, rfl⟩
theorem cv_Ab_byteOf_141 : zx_CV mi_Ab_byteOf mi_Ab_hasMessage 141 my_Ab_hasMessage 1 := ⟨⟨wd_561, wd_563, wp_24, wd_1, wd_564⟩, rfl, ⟨by decide, by decide, by decide +kernel⟩, ⟨rfl, rfl, by decide, by decide⟩⟩
theorem cv_Ab_byteOf_162 : zx_CV mi_Ab_byteOf mi_Ms_byteAt 162 my_Ms_byteAt 1 := ⟨⟨wd_569, wd_570, wd_571, wd_5, wd_572⟩, rfl, ⟨by decide, by decide, by decide +kernel⟩, ⟨rfl, rfl, by decide, by decide⟩⟩
theorem cv_Ab_isOn_30 : zx_CV mi_Ab_isOn mi_Ab_isFunction 30 my_Ab_isFunction 1 := ⟨⟨wd_246, wd_248, wp_0, wd_1, wd_249⟩, rfl, ⟨by decide, by decide, by decide +kernel⟩, ⟨rfl, rfl, by decide, by decide⟩⟩
theorem cv_Ab_hasMessage_34 : zx_CV mi_Ab_hasMessage mi_Ab_isOn 34 my_Ab_isOn 1 := ⟨⟨wd_250, wd_252, wp_1, wd_1, wd_253⟩, rfl, ⟨by decide, by decide, by decide +kernel⟩, ⟨rfl, rfl, by decide, by decide⟩⟩
theorem cv_Ab_isNameTaken_34 : zx_CV mi_Ab_isNameTaken mi_Ab_isOn 34 my_Ab_isOn 1 := ⟨⟨wd_250, wd_252, wp_1, wd_1, wd_253⟩, rfl, ⟨by decide, by decide, by decide +kernel⟩, ⟨rfl, rfl, by decide, by decide⟩⟩
theorem fl_Ab_166 : zx_Fl "AddressClaimBus" 166 1 8 .long false := ⟨_, _, _, _, kc_Fu, by decide, wd_212, rfl, rfl, rfl⟩
theorem cv_Ab_firstDue_122 : zx_CV mi_Ab_firstDue mi_Fu_nextDue 122 my_Fu_nextDue 0 := ⟨⟨wd_518, wd_519, wd_520, wd_3, wd_521⟩, rfl, ⟨by decide, by decide, by decide +kernel⟩, ⟨rfl, rfl, by decide, by decide⟩⟩
theorem kk_Ab_169 : Cond.constantLong "AddressClaimBus" 169 (lN 1095216660480) ∈ zx_T := wd_350
theorem cs_Ab_extentData_171 : zx_CS mi_Ab_extentData mi_Ab_packetsFor 171 my_Ab_packetsFor 1 := ⟨⟨wd_344, wd_345, wd_1, wd_346⟩, rfl, ⟨by decide, by decide, by decide +kernel⟩, ⟨rfl, rfl, by decide, by decide⟩⟩
theorem cs_Ab_extentData_174 : zx_CS mi_Ab_extentData mi_Ab_controlData 174 my_Ab_controlData 5 := ⟨⟨wd_347, wd_348, wd_1, wd_349⟩, rfl, ⟨by decide, by decide, by decide +kernel⟩, ⟨rfl, rfl, by decide, by decide⟩⟩
theorem cs_Ab_abortData_174 : zx_CS mi_Ab_abortData mi_Ab_controlData 174 my_Ab_controlData 5 := ⟨⟨wd_347, wd_348, wd_1, wd_349⟩, rfl, ⟨by decide, by decide, by decide +kernel⟩, ⟨rfl, rfl, by decide, by decide⟩⟩
theorem cw_Md_obj : Cond.methodLink "AddressClaimBusModel" 1 objectInit ∈ zx_T ∧ Cond.instanceMethod objectInit ∈ zx_T ∧ Cond.code objectInit ⟨#[0xb1]⟩ 1 none ∈ zx_T := ⟨wd_579, wd_16, wd_17⟩
theorem fl_Md_7 : zx_Fl "AddressClaimBusModel" 7 7 1 (.array .int) false := ⟨_, _, _, _, kc_Md, by decide, wd_581, rfl, rfl, rfl⟩
theorem fl_Md_13 : zx_Fl "AddressClaimBusModel" 13 7 2 (.array .int) false := ⟨_, _, _, _, kc_Md, by decide, wd_582, rfl, rfl, rfl⟩
theorem fl_Md_16 : zx_Fl "AddressClaimBusModel" 16 7 3 (.array .long) false := ⟨_, _, _, _, kc_Md, by decide, wd_583, rfl, rfl, rfl⟩
theorem fl_Md_20 : zx_Fl "AddressClaimBusModel" 20 7 4 (.array .boolean) false := ⟨_, _, _, _, kc_Md, by decide, wd_584, rfl, rfl, rfl⟩
theorem fl_Md_24 : zx_Fl "AddressClaimBusModel" 24 7 5 (.array .int) false := ⟨_, _, _, _, kc_Md, by decide, wd_585, rfl, rfl, rfl⟩
theorem fl_Md_27 : zx_Fl "AddressClaimBusModel" 27 7 6 (.array .int) false := ⟨_, _, _, _, kc_Md, by decide, wd_586, rfl, rfl, rfl⟩
theorem fl_Md_30 : zx_Fl "AddressClaimBusModel" 30 7 8 (.array .int) false := ⟨_, _, _, _, kc_Md, by decide, wd_588, rfl, rfl, rfl⟩
theorem fl_Md_33 : zx_Fl "AddressClaimBusModel" 33 7 9 (.array .long) false := ⟨_, _, _, _, kc_Md, by decide, wd_589, rfl, rfl, rfl⟩
theorem fl_Md_36 : zx_Fl "AddressClaimBusModel" 36 7 10 (.array .int) false := ⟨_, _, _, _, kc_Md, by decide, wd_590, rfl, rfl, rfl⟩
theorem fl_Md_39 : zx_Fl "AddressClaimBusModel" 39 7 12 (.array .int) false := ⟨_, _, _, _, kc_Md, by decide, wd_592, rfl, rfl, rfl⟩
theorem fl_Md_42 : zx_Fl "AddressClaimBusModel" 42 7 13 (.array .int) false := ⟨_, _, _, _, kc_Md, by decide, wd_593, rfl, rfl, rfl⟩
theorem fl_Md_45 : zx_Fl "AddressClaimBusModel" 45 7 14 (.array .int) false := ⟨_, _, _, _, kc_Md, by decide, wd_594, rfl, rfl, rfl⟩
theorem fl_Md_48 : zx_Fl "AddressClaimBusModel" 48 7 15 (.array .int) false := ⟨_, _, _, _, kc_Md, by decide, wd_595, rfl, rfl, rfl⟩
theorem fl_Md_51 : zx_Fl "AddressClaimBusModel" 51 7 16 (.array .int) false := ⟨_, _, _, _, kc_Md, by decide, wd_596, rfl, rfl, rfl⟩
theorem fl_Md_54 : zx_Fl "AddressClaimBusModel" 54 7 17 (.array .long) false := ⟨_, _, _, _, kc_Md, by decide, wd_597, rfl, rfl, rfl⟩
theorem fl_Md_57 : zx_Fl "AddressClaimBusModel" 57 7 18 (.array .int) false := ⟨_, _, _, _, kc_Md, by decide, wd_598, rfl, rfl, rfl⟩
theorem fl_Md_60 : zx_Fl "AddressClaimBusModel" 60 7 19 (.array .int) false := ⟨_, _, _, _, kc_Md, by decide, wd_599, rfl, rfl, rfl⟩
theorem fl_Md_63 : zx_Fl "AddressClaimBusModel" 63 7 20 (.array .int) false := ⟨_, _, _, _, kc_Md, by decide, wd_600, rfl, rfl, rfl⟩
theorem fl_Md_66 : zx_Fl "AddressClaimBusModel" 66 7 21 (.array .boolean) false := ⟨_, _, _, _, kc_Md, by decide, wd_601, rfl, rfl, rfl⟩
theorem fl_Md_69 : zx_Fl "AddressClaimBusModel" 69 7 22 (.array .int) false := ⟨_, _, _, _, kc_Md, by decide, wd_602, rfl, rfl, rfl⟩
theorem fl_Md_72 : zx_Fl "AddressClaimBusModel" 72 7 23 (.array .int) false := ⟨_, _, _, _, kc_Md, by decide, wd_603, rfl, rfl, rfl⟩
theorem fl_Md_75 : zx_Fl "AddressClaimBusModel" 75 7 24 (.array .int) false := ⟨_, _, _, _, kc_Md, by decide, wd_604, rfl, rfl, rfl⟩
theorem fl_Md_78 : zx_Fl "AddressClaimBusModel" 78 7 25 (.array .int) false := ⟨_, _, _, _, kc_Md, by decide, wd_605, rfl, rfl, rfl⟩
theorem fl_Md_81 : zx_Fl "AddressClaimBusModel" 81 7 26 (.array .int) false := ⟨_, _, _, _, kc_Md, by decide, wd_606, rfl, rfl, rfl⟩
theorem fl_Md_84 : zx_Fl "AddressClaimBusModel" 84 7 27 (.array .int) false := ⟨_, _, _, _, kc_Md, by decide, wd_607, rfl, rfl, rfl⟩
theorem fl_Md_87 : zx_Fl "AddressClaimBusModel" 87 7 28 (.array .boolean) false := ⟨_, _, _, _, kc_Md, by decide, wd_608, rfl, rfl, rfl⟩
theorem fl_Md_90 : zx_Fl "AddressClaimBusModel" 90 7 29 (.array .int) false := ⟨_, _, _, _, kc_Md, by decide, wd_609, rfl, rfl, rfl⟩
theorem fl_Md_93 : zx_Fl "AddressClaimBusModel" 93 7 30 (.array .int) false := ⟨_, _, _, _, kc_Md, by decide, wd_610, rfl, rfl, rfl⟩
theorem fl_Md_96 : zx_Fl "AddressClaimBusModel" 96 7 31 (.array .int) false := ⟨_, _, _, _, kc_Md, by decide, wd_611, rfl, rfl, rfl⟩
theorem fl_Md_99 : zx_Fl "AddressClaimBusModel" 99 7 32 (.array .int) false := ⟨_, _, _, _, kc_Md, by decide, wd_612, rfl, rfl, rfl⟩
theorem fl_Md_102 : zx_Fl "AddressClaimBusModel" 102 7 33 (.array .int) false := ⟨_, _, _, _, kc_Md, by decide, wd_613, rfl, rfl, rfl⟩
theorem fl_Md_105 : zx_Fl "AddressClaimBusModel" 105 7 7 .int false := ⟨_, _, _, _, kc_Md, by decide, wd_587, rfl, rfl, rfl⟩
theorem fl_Md_109 : zx_Fl "AddressClaimBusModel" 109 7 11 .int false := ⟨_, _, _, _, kc_Md, by decide, wd_591, rfl, rfl, rfl⟩
theorem cv_Md_put_112 : zx_CV mi_Md_put mi_Md_source 112 my_Md_source 1 := ⟨⟨wd_739, wd_741, wp_32, wd_8, wd_742⟩, rfl, ⟨by decide, by decide, by decide +kernel⟩, ⟨rfl, rfl, by decide, by decide⟩⟩
theorem cv_Md_putClaim_116 : zx_CV mi_Md_putClaim mi_Md_put 116 my_Md_put 5 := ⟨⟨wd_735, wd_737, wp_31, wd_8, wd_738⟩, rfl, ⟨by decide, by decide, by decide +kernel⟩, ⟨rfl, rfl, by decide, by decide⟩⟩
theorem kk_Md_120 : Cond.constantLong "AddressClaimBusModel" 120 (lN 1095216660480) ∈ zx_T := wd_769
theorem cv_Md_putControl_116 : zx_CV mi_Md_putControl mi_Md_put 116 my_Md_put 5 := ⟨⟨wd_735, wd_737, wp_31, wd_8, wd_738⟩, rfl, ⟨by decide, by decide, by decide +kernel⟩, ⟨rfl, rfl, by decide, by decide⟩⟩
theorem cv_Md_putAbort_122 : zx_CV mi_Md_putAbort mi_Md_putControl 122 my_Md_putControl 7 := ⟨⟨wd_765, wd_767, wp_38, wd_8, wd_768⟩, rfl, ⟨by decide, by decide, by decide +kernel⟩, ⟨rfl, rfl, by decide, by decide⟩⟩
theorem kk_Md_126 : Cond.constantLong "AddressClaimBusModel" 126 (lN 255) ∈ zx_T := wd_747
theorem cv_Md_putPacket_116 : zx_CV mi_Md_putPacket mi_Md_put 116 my_Md_put 5 := ⟨⟨wd_735, wd_737, wp_31, wd_8, wd_738⟩, rfl, ⟨by decide, by decide, by decide +kernel⟩, ⟨rfl, rfl, by decide, by decide⟩⟩
theorem cv_Md_identifier_128 : zx_CV mi_Md_identifier mi_Md_next 128 my_Md_next 0 := ⟨⟨wd_692, wd_694, wp_25, wd_8, wd_695⟩, rfl, ⟨by decide, by decide, by decide +kernel⟩, ⟨rfl, rfl, by decide, by decide⟩⟩
theorem cv_Md_data_128 : zx_CV mi_Md_data mi_Md_next 128 my_Md_next 0 := ⟨⟨wd_692, wd_694, wp_25, wd_8, wd_695⟩, rfl, ⟨by decide, by decide, by decide +kernel⟩, ⟨rfl, rfl, by decide, by decide⟩⟩
theorem cv_Md_lose_128 : zx_CV mi_Md_lose mi_Md_next 128 my_Md_next 0 := ⟨⟨wd_692, wd_694, wp_25, wd_8, wd_695⟩, rfl, ⟨by decide, by decide, by decide +kernel⟩, ⟨rfl, rfl, by decide, by decide⟩⟩
theorem cv_Md_lose_132 : zx_CV mi_Md_lose mi_Md_takeAway 132 my_Md_takeAway 1 := ⟨⟨wd_704, wd_706, wp_26, wd_8, wd_707⟩, rfl, ⟨by decide, by decide, by decide +kernel⟩, ⟨rfl, rfl, by decide, by decide⟩⟩
theorem cv_Md_deliver_128 : zx_CV mi_Md_deliver mi_Md_next 128 my_Md_next 0 := ⟨⟨wd_692, wd_694, wp_25, wd_8, wd_695⟩, rfl, ⟨by decide, by decide, by decide +kernel⟩, ⟨rfl, rfl, by decide, by decide⟩⟩
theorem cv_Md_deliver_132 : zx_CV mi_Md_deliver mi_Md_takeAway 132 my_Md_takeAway 1 := ⟨⟨wd_704, wd_706, wp_26, wd_8, wd_707⟩, rfl, ⟨by decide, by decide, by decide +kernel⟩, ⟨rfl, rfl, by decide, by decide⟩⟩
theorem cv_Md_deliver_136 : zx_CV mi_Md_deliver mi_Md_reach 136 my_Md_reach 6 := ⟨⟨wd_716, wd_718, wp_27, wd_8, wd_719⟩, rfl, ⟨by decide, by decide, by decide +kernel⟩, ⟨rfl, rfl, by decide, by decide⟩⟩
theorem cv_Md_reach_140 : zx_CV mi_Md_reach mi_Md_claimed 140 my_Md_claimed 4 := ⟨⟨wd_720, wd_722, wp_28, wd_8, wd_723⟩, rfl, ⟨by decide, by decide, by decide +kernel⟩, ⟨rfl, rfl, by decide, by decide⟩⟩
theorem cv_Md_reach_144 : zx_CV mi_Md_reach mi_Md_putClaim 144 my_Md_putClaim 1 := ⟨⟨wd_731, wd_733, wp_30, wd_8, wd_734⟩, rfl, ⟨by decide, by decide, by decide +kernel⟩, ⟨rfl, rfl, by decide, by decide⟩⟩
theorem cv_Md_reach_147 : zx_CV mi_Md_reach mi_Md_control 147 my_Md_control 4 := ⟨⟨wd_743, wd_745, wp_33, wd_8, wd_746⟩, rfl, ⟨by decide, by decide, by decide +kernel⟩, ⟨rfl, rfl, by decide, by decide⟩⟩
theorem cv_Md_reach_150 : zx_CV mi_Md_reach mi_Md_packet 150 my_Md_packet 4 := ⟨⟨wd_789, wd_791, wp_43, wd_8, wd_792⟩, rfl, ⟨by decide, by decide, by decide +kernel⟩, ⟨rfl, rfl, by decide, by decide⟩⟩
theorem fl_Md_153 : zx_Fl "AddressClaimBusModel" 153 7 0 .int false := ⟨_, _, _, _, kc_Md, by decide, wd_580, rfl, rfl, rfl⟩
theorem cv_Md_start_144 : zx_CV mi_Md_start mi_Md_putClaim 144 my_Md_putClaim 1 := ⟨⟨wd_731, wd_733, wp_30, wd_8, wd_734⟩, rfl, ⟨by decide, by decide, by decide +kernel⟩, ⟨rfl, rfl, by decide, by decide⟩⟩
theorem cv_Md_stop_156 : zx_CV mi_Md_stop mi_Md_on 156 my_Md_on 1 := ⟨⟨wd_809, wd_811, wp_46, wd_8, wd_812⟩, rfl, ⟨by decide, by decide, by decide +kernel⟩, ⟨rfl, rfl, by decide, by decide⟩⟩
theorem cv_Md_stop_132 : zx_CV mi_Md_stop mi_Md_takeAway 132 my_Md_takeAway 1 := ⟨⟨wd_704, wd_706, wp_26, wd_8, wd_707⟩, rfl, ⟨by decide, by decide, by decide +kernel⟩, ⟨rfl, rfl, by decide, by decide⟩⟩
theorem cv_Md_address_156 : zx_CV mi_Md_address mi_Md_on 156 my_Md_on 1 := ⟨⟨wd_809, wd_811, wp_46, wd_8, wd_812⟩, rfl, ⟨by decide, by decide, by decide +kernel⟩, ⟨rfl, rfl, by decide, by decide⟩⟩
theorem cv_Md_address_112 : zx_CV mi_Md_address mi_Md_source 112 my_Md_source 1 := ⟨⟨wd_739, wd_741, wp_32, wd_8, wd_742⟩, rfl, ⟨by decide, by decide, by decide +kernel⟩, ⟨rfl, rfl, by decide, by decide⟩⟩
theorem cv_Md_noted_156 : zx_CV mi_Md_noted mi_Md_on 156 my_Md_on 1 := ⟨⟨wd_809, wd_811, wp_46, wd_8, wd_812⟩, rfl, ⟨by decide, by decide, by decide +kernel⟩, ⟨rfl, rfl, by decide, by decide⟩⟩
theorem cv_Md_request_156 : zx_CV mi_Md_request mi_Md_on 156 my_Md_on 1 := ⟨⟨wd_809, wd_811, wp_46, wd_8, wd_812⟩, rfl, ⟨by decide, by decide, by decide +kernel⟩, ⟨rfl, rfl, by decide, by decide⟩⟩
theorem kk_Md_160 : Cond.constantLong "AddressClaimBusModel" 160 (lN 60928) ∈ zx_T := wd_833
theorem cv_Md_request_116 : zx_CV mi_Md_request mi_Md_put 116 my_Md_put 5 := ⟨⟨wd_735, wd_737, wp_31, wd_8, wd_738⟩, rfl, ⟨by decide, by decide, by decide +kernel⟩, ⟨rfl, rfl, by decide, by decide⟩⟩
theorem cs_Md_claimed_162 : zx_CS mi_Md_claimed mi_Md_below 162 my_Md_below 2 := ⟨⟨wd_724, wd_725, wd_8, wd_726⟩, rfl, ⟨by decide, by decide, by decide +kernel⟩, ⟨rfl, rfl, by decide, by decide⟩⟩
theorem cv_Md_claimed_166 : zx_CV mi_Md_claimed mi_Md_spare 166 my_Md_spare 1 := ⟨⟨wd_727, wd_729, wp_29, wd_8, wd_730⟩, rfl, ⟨by decide, by decide, by decide +kernel⟩, ⟨rfl, rfl, by decide, by decide⟩⟩
theorem cv_Md_claimed_144 : zx_CV mi_Md_claimed mi_Md_putClaim 144 my_Md_putClaim 1 := ⟨⟨wd_731, wd_733, wp_30, wd_8, wd_734⟩, rfl, ⟨by decide, by decide, by decide +kernel⟩, ⟨rfl, rfl, by decide, by decide⟩⟩
theorem cv_Md_send_156 : zx_CV mi_Md_send mi_Md_on 156 my_Md_on 1 := ⟨⟨wd_809, wd_811, wp_46, wd_8, wd_812⟩, rfl, ⟨by decide, by decide, by decide +kernel⟩, ⟨rfl, rfl, by decide, by decide⟩⟩
theorem kk_Md_169 : Cond.constant "AddressClaimBusModel" 169 (nI 262143) ∈ zx_T := wd_838
theorem cs_Md_send_170 : zx_CS mi_Md_send mi_Md_packets 170 my_Md_packets 1 := ⟨⟨wd_774, wd_775, wd_8, wd_776⟩, rfl, ⟨by decide, by decide, by decide +kernel⟩, ⟨rfl, rfl, by decide, by decide⟩⟩
theorem cv_Md_send_122 : zx_CV mi_Md_send mi_Md_putControl 122 my_Md_putControl 7 := ⟨⟨wd_765, wd_767, wp_38, wd_8, wd_768⟩, rfl, ⟨by decide, by decide, by decide +kernel⟩, ⟨rfl, rfl, by decide, by decide⟩⟩
theorem kk_Md_173 : Cond.constantLong "AddressClaimBusModel" 173 (lN 16777215) ∈ zx_T := wd_748
theorem cv_Md_control_175 : zx_CV mi_Md_control mi_Md_find 175 my_Md_find 3 := ⟨⟨wd_749, wd_751, wp_34, wd_8, wd_752⟩, rfl, ⟨by decide, by decide, by decide +kernel⟩, ⟨rfl, rfl, by decide, by decide⟩⟩
theorem cv_Md_control_179 : zx_CV mi_Md_control mi_Md_opened 179 my_Md_opened 5 := ⟨⟨wd_753, wd_755, wp_35, wd_8, wd_756⟩, rfl, ⟨by decide, by decide, by decide +kernel⟩, ⟨rfl, rfl, by decide, by decide⟩⟩
theorem cv_Md_control_183 : zx_CV mi_Md_control mi_Md_granted 183 my_Md_granted 3 := ⟨⟨wd_777, wd_779, wp_40, wd_8, wd_780⟩, rfl, ⟨by decide, by decide, by decide +kernel⟩, ⟨rfl, rfl, by decide, by decide⟩⟩
theorem cv_Md_control_187 : zx_CV mi_Md_control mi_Md_finish 187 my_Md_finish 2 := ⟨⟨wd_785, wd_787, wp_42, wd_8, wd_788⟩, rfl, ⟨by decide, by decide, by decide +kernel⟩, ⟨rfl, rfl, by decide, by decide⟩⟩
theorem cv_Md_control_191 : zx_CV mi_Md_control mi_Md_close 191 my_Md_close 2 := ⟨⟨wd_757, wd_759, wp_36, wd_8, wd_760⟩, rfl, ⟨by decide, by decide, by decide +kernel⟩, ⟨rfl, rfl, by decide, by decide⟩⟩
theorem cs_Md_granted_170 : zx_CS mi_Md_granted mi_Md_packets 170 my_Md_packets 1 := ⟨⟨wd_774, wd_775, wd_8, wd_776⟩, rfl, ⟨by decide, by decide, by decide +kernel⟩, ⟨rfl, rfl, by decide, by decide⟩⟩
theorem cv_Md_granted_194 : zx_CV mi_Md_granted mi_Md_putPacket 194 my_Md_putPacket 2 := ⟨⟨wd_781, wd_783, wp_41, wd_8, wd_784⟩, rfl, ⟨by decide, by decide, by decide +kernel⟩, ⟨rfl, rfl, by decide, by decide⟩⟩
theorem cv_Md_opened_175 : zx_CV mi_Md_opened mi_Md_find 175 my_Md_find 3 := ⟨⟨wd_749, wd_751, wp_34, wd_8, wd_752⟩, rfl, ⟨by decide, by decide, by decide +kernel⟩, ⟨rfl, rfl, by decide, by decide⟩⟩
theorem cv_Md_opened_191 : zx_CV mi_Md_opened mi_Md_close 191 my_Md_close 2 := ⟨⟨wd_757, wd_759, wp_36, wd_8, wd_760⟩, rfl, ⟨by decide, by decide, by decide +kernel⟩, ⟨rfl, rfl, by decide, by decide⟩⟩
theorem cv_Md_opened_197 : zx_CV mi_Md_opened mi_Md_putAbort 197 my_Md_putAbort 4 := ⟨⟨wd_761, wd_763, wp_37, wd_8, wd_764⟩, rfl, ⟨by decide, by decide, by decide +kernel⟩, ⟨rfl, rfl, by decide, by decide⟩⟩
theorem cv_Md_opened_201 : zx_CV mi_Md_opened mi_Md_grant 201 my_Md_grant 2 := ⟨⟨wd_770, wd_772, wp_39, wd_8, wd_773⟩, rfl, ⟨by decide, by decide, by decide +kernel⟩, ⟨rfl, rfl, by decide, by decide⟩⟩
theorem cs_Md_grant_170 : zx_CS mi_Md_grant mi_Md_packets 170 my_Md_packets 1 := ⟨⟨wd_774, wd_775, wd_8, wd_776⟩, rfl, ⟨by decide, by decide, by decide +kernel⟩, ⟨rfl, rfl, by decide, by decide⟩⟩
theorem cv_Md_grant_122 : zx_CV mi_Md_grant mi_Md_putControl 122 my_Md_putControl 7 := ⟨⟨wd_765, wd_767, wp_38, wd_8, wd_768⟩, rfl, ⟨by decide, by decide, by decide +kernel⟩, ⟨rfl, rfl, by decide, by decide⟩⟩
theorem cv_Md_askAgain_201 : zx_CV mi_Md_askAgain mi_Md_grant 201 my_Md_grant 2 := ⟨⟨wd_770, wd_772, wp_39, wd_8, wd_773⟩, rfl, ⟨by decide, by decide, by decide +kernel⟩, ⟨rfl, rfl, by decide, by decide⟩⟩
theorem cv_Md_askAgain_197 : zx_CV mi_Md_askAgain mi_Md_putAbort 197 my_Md_putAbort 4 := ⟨⟨wd_761, wd_763, wp_37, wd_8, wd_764⟩, rfl, ⟨by decide, by decide, by decide +kernel⟩, ⟨rfl, rfl, by decide, by decide⟩⟩
theorem cv_Md_askAgain_191 : zx_CV mi_Md_askAgain mi_Md_close 191 my_Md_close 2 := ⟨⟨wd_757, wd_759, wp_36, wd_8, wd_760⟩, rfl, ⟨by decide, by decide, by decide +kernel⟩, ⟨rfl, rfl, by decide, by decide⟩⟩
theorem cv_Md_packet_175 : zx_CV mi_Md_packet mi_Md_find 175 my_Md_find 3 := ⟨⟨wd_749, wd_751, wp_34, wd_8, wd_752⟩, rfl, ⟨by decide, by decide, by decide +kernel⟩, ⟨rfl, rfl, by decide, by decide⟩⟩
theorem cv_Md_packet_204 : zx_CV mi_Md_packet mi_Md_keep 204 my_Md_keep 4 := ⟨⟨wd_793, wd_795, wp_44, wd_8, wd_796⟩, rfl, ⟨by decide, by decide, by decide +kernel⟩, ⟨rfl, rfl, by decide, by decide⟩⟩
theorem cv_Md_packet_191 : zx_CV mi_Md_packet mi_Md_close 191 my_Md_close 2 := ⟨⟨wd_757, wd_759, wp_36, wd_8, wd_760⟩, rfl, ⟨by decide, by decide, by decide +kernel⟩, ⟨rfl, rfl, by decide, by decide⟩⟩
theorem cv_Md_packet_207 : zx_CV mi_Md_packet mi_Md_askAgain 207 my_Md_askAgain 3 := ⟨⟨wd_797, wd_799, wp_45, wd_8, wd_800⟩, rfl, ⟨by decide, by decide, by decide +kernel⟩, ⟨rfl, rfl, by decide, by decide⟩⟩
theorem cs_Md_keep_170 : zx_CS mi_Md_keep mi_Md_packets 170 my_Md_packets 1 := ⟨⟨wd_774, wd_775, wd_8, wd_776⟩, rfl, ⟨by decide, by decide, by decide +kernel⟩, ⟨rfl, rfl, by decide, by decide⟩⟩
theorem cv_Md_keep_201 : zx_CV mi_Md_keep mi_Md_grant 201 my_Md_grant 2 := ⟨⟨wd_770, wd_772, wp_39, wd_8, wd_773⟩, rfl, ⟨by decide, by decide, by decide +kernel⟩, ⟨rfl, rfl, by decide, by decide⟩⟩
theorem cv_Md_keep_122 : zx_CV mi_Md_keep mi_Md_putControl 122 my_Md_putControl 7 := ⟨⟨wd_765, wd_767, wp_38, wd_8, wd_768⟩, rfl, ⟨by decide, by decide, by decide +kernel⟩, ⟨rfl, rfl, by decide, by decide⟩⟩
theorem cv_Md_keep_191 : zx_CV mi_Md_keep mi_Md_close 191 my_Md_close 2 := ⟨⟨wd_757, wd_759, wp_36, wd_8, wd_760⟩, rfl, ⟨by decide, by decide, by decide +kernel⟩, ⟨rfl, rfl, by decide, by decide⟩⟩
theorem cv_Md_goOff_210 : zx_CV mi_Md_goOff mi_Md_outgoingOff 210 my_Md_outgoingOff 1 := ⟨⟨wd_851, wd_853, wp_49, wd_8, wd_854⟩, rfl, ⟨by decide, by decide, by decide +kernel⟩, ⟨rfl, rfl, by decide, by decide⟩⟩
theorem cv_Md_goOff_191 : zx_CV mi_Md_goOff mi_Md_close 191 my_Md_close 2 := ⟨⟨wd_757, wd_759, wp_36, wd_8, wd_760⟩, rfl, ⟨by decide, by decide, by decide +kernel⟩, ⟨rfl, rfl, by decide, by decide⟩⟩
theorem cv_Md_goOff_201 : zx_CV mi_Md_goOff mi_Md_grant 201 my_Md_grant 2 := ⟨⟨wd_770, wd_772, wp_39, wd_8, wd_773⟩, rfl, ⟨by decide, by decide, by decide +kernel⟩, ⟨rfl, rfl, by decide, by decide⟩⟩
theorem cv_Md_goOff_207 : zx_CV mi_Md_goOff mi_Md_askAgain 207 my_Md_askAgain 3 := ⟨⟨wd_797, wd_799, wp_45, wd_8, wd_800⟩, rfl, ⟨by decide, by decide, by decide +kernel⟩, ⟨rfl, rfl, by decide, by decide⟩⟩
theorem cv_Md_outgoingOff_197 : zx_CV mi_Md_outgoingOff mi_Md_putAbort 197 my_Md_putAbort 4 := ⟨⟨wd_761, wd_763, wp_37, wd_8, wd_764⟩, rfl, ⟨by decide, by decide, by decide +kernel⟩, ⟨rfl, rfl, by decide, by decide⟩⟩
theorem cv_Md_outgoingOff_187 : zx_CV mi_Md_outgoingOff mi_Md_finish 187 my_Md_finish 2 := ⟨⟨wd_785, wd_787, wp_42, wd_8, wd_788⟩, rfl, ⟨by decide, by decide, by decide +kernel⟩, ⟨rfl, rfl, by decide, by decide⟩⟩
theorem cv_Md_outgoingOff_194 : zx_CV mi_Md_outgoingOff mi_Md_putPacket 194 my_Md_putPacket 2 := ⟨⟨wd_781, wd_783, wp_41, wd_8, wd_784⟩, rfl, ⟨by decide, by decide, by decide +kernel⟩, ⟨rfl, rfl, by decide, by decide⟩⟩
theorem cs_Md_outgoingOff_170 : zx_CS mi_Md_outgoingOff mi_Md_packets 170 my_Md_packets 1 := ⟨⟨wd_774, wd_775, wd_8, wd_776⟩, rfl, ⟨by decide, by decide, by decide +kernel⟩, ⟨rfl, rfl, by decide, by decide⟩⟩
theorem cv_Md_tick_213 : zx_CV mi_Md_tick mi_Md_due 213 my_Md_due 1 := ⟨⟨wd_843, wd_845, wp_47, wd_8, wd_846⟩, rfl, ⟨by decide, by decide, by decide +kernel⟩, ⟨rfl, rfl, by decide, by decide⟩⟩
theorem cv_Md_tick_216 : zx_CV mi_Md_tick mi_Md_goOff 216 my_Md_goOff 1 := ⟨⟨wd_847, wd_849, wp_48, wd_8, wd_850⟩, rfl, ⟨by decide, by decide, by decide +kernel⟩, ⟨rfl, rfl, by decide, by decide⟩⟩
theorem cv_Md_outgoing_156 : zx_CV mi_Md_outgoing mi_Md_on 156 my_Md_on 1 := ⟨⟨wd_809, wd_811, wp_46, wd_8, wd_812⟩, rfl, ⟨by decide, by decide, by decide +kernel⟩, ⟨rfl, rfl, by decide, by decide⟩⟩
theorem cv_Md_incoming_156 : zx_CV mi_Md_incoming mi_Md_on 156 my_Md_on 1 := ⟨⟨wd_809, wd_811, wp_46, wd_8, wd_812⟩, rfl, ⟨by decide, by decide, by decide +kernel⟩, ⟨rfl, rfl, by decide, by decide⟩⟩
theorem cv_Md_delivered_156 : zx_CV mi_Md_delivered mi_Md_on 156 my_Md_on 1 := ⟨⟨wd_809, wd_811, wp_46, wd_8, wd_812⟩, rfl, ⟨by decide, by decide, by decide +kernel⟩, ⟨rfl, rfl, by decide, by decide⟩⟩
theorem cv_Md_message_156 : zx_CV mi_Md_message mi_Md_on 156 my_Md_on 1 := ⟨⟨wd_809, wd_811, wp_46, wd_8, wd_812⟩, rfl, ⟨by decide, by decide, by decide +kernel⟩, ⟨rfl, rfl, by decide, by decide⟩⟩
theorem cv_Md_byteOf_156 : zx_CV mi_Md_byteOf mi_Md_on 156 my_Md_on 1 := ⟨⟨wd_809, wd_811, wp_46, wd_8, wd_812⟩, rfl, ⟨by decide, by decide, by decide +kernel⟩, ⟨rfl, rfl, by decide, by decide⟩⟩
theorem cw_Bu_obj : Cond.methodLink "AddressClaimBus$Bus" 3 objectInit ∈ zx_T ∧ Cond.instanceMethod objectInit ∈ zx_T ∧ Cond.code objectInit ⟨#[0xb1]⟩ 1 none ∈ zx_T := ⟨wd_23, wd_16, wd_17⟩
theorem fl_Bu_9 : zx_Fl "AddressClaimBus$Bus" 9 0 0 (.array .int) true := ⟨_, _, _, _, kc_Bu, by decide, wd_24, rfl, rfl, rfl⟩
theorem fl_Bu_15 : zx_Fl "AddressClaimBus$Bus" 15 0 1 (.array .long) true := ⟨_, _, _, _, kc_Bu, by decide, wd_26, rfl, rfl, rfl⟩
theorem fl_Bu_19 : zx_Fl "AddressClaimBus$Bus" 19 0 2 (.array .int) true := ⟨_, _, _, _, kc_Bu, by decide, wd_28, rfl, rfl, rfl⟩
theorem fl_Bu_22 : zx_Fl "AddressClaimBus$Bus" 22 0 3 .int false := ⟨_, _, _, _, kc_Bu, by decide, wd_30, rfl, rfl, rfl⟩
theorem fl_Bu_26 : zx_Fl "AddressClaimBus$Bus" 26 0 4 .int false := ⟨_, _, _, _, kc_Bu, by decide, wd_32, rfl, rfl, rfl⟩
theorem fl_Bu_29 : zx_Fl "AddressClaimBus$Bus" 29 5 1 .int false := ⟨_, _, _, _, kc_St, by decide, wd_65, rfl, rfl, rfl⟩
theorem fl_Bu_34 : zx_Fl "AddressClaimBus$Bus" 34 5 0 .int true := ⟨_, _, _, _, kc_St, by decide, wd_63, rfl, rfl, rfl⟩
theorem cv_Bu_takeAway_37 : zx_CV mi_Bu_takeAway mi_Bu_move 37 my_Bu_move 2 := ⟨⟨wd_300, wd_302, wp_6, wd_2, wd_303⟩, rfl, ⟨by decide, by decide, by decide +kernel⟩, ⟨rfl, rfl, by decide, by decide⟩⟩
theorem cv_Bu_takeAwayFramesOf_37 : zx_CV mi_Bu_takeAwayFramesOf mi_Bu_move 37 my_Bu_move 2 := ⟨⟨wd_300, wd_302, wp_6, wd_2, wd_303⟩, rfl, ⟨by decide, by decide, by decide +kernel⟩, ⟨rfl, rfl, by decide, by decide⟩⟩
theorem cw_Fu_obj : Cond.methodLink "AddressClaimBus$Function" 3 objectInit ∈ zx_T ∧ Cond.instanceMethod objectInit ∈ zx_T ∧ Cond.code objectInit ⟨#[0xb1]⟩ 1 none ∈ zx_T := ⟨wd_80, wd_16, wd_17⟩
theorem fl_Fu_9 : zx_Fl "AddressClaimBus$Function" 9 1 2 (.array .int) true := ⟨_, _, _, _, kc_Fu, by decide, wd_200, rfl, rfl, rfl⟩
theorem na_Fu_15 : Cond.classLink "AddressClaimBus$Function" 15 "AddressClaimBus$Incoming" ∈ zx_T ∧ "AddressClaimBus$Incoming" ∈ zx_AO := ⟨wd_81, by decide⟩
theorem fl_Fu_17 : zx_Fl "AddressClaimBus$Function" 17 1 4 (.array (.object "AddressClaimBus$Incoming")) true := ⟨_, _, _, _, kc_Fu, by decide, wd_204, rfl, rfl, rfl⟩
theorem nw_Fu_21 : Cond.classLink "AddressClaimBus$Function" 21 "AddressClaimBus$Message" ∈ zx_T ∧ Cond.instantiable "AddressClaimBus$Message" 5 ∈ zx_T ∧ Cond.initialized "AddressClaimBus$Message" ∈ zx_T := ⟨wd_83, wd_84, wd_5⟩
theorem ci_Fu_init_23 : zx_CJ mi_Fu_init mi_Ms_init 23 my_Ms_init 0 := ⟨⟨List.mem_of_getElem? (i := 1) rfl, wd_86, wd_5, wd_87⟩, rfl, rfl, ⟨by decide, by decide, by decide +kernel⟩, ⟨rfl, rfl, by decide, by decide⟩⟩
theorem fl_Fu_24 : zx_Fl "AddressClaimBus$Function" 24 1 5 (.object "AddressClaimBus$Message") true := ⟨_, _, _, _, kc_Fu, by decide, wd_205, rfl, rfl, rfl⟩
theorem fl_Fu_28 : zx_Fl "AddressClaimBus$Function" 28 1 7 .int false := ⟨_, _, _, _, kc_Fu, by decide, wd_209, rfl, rfl, rfl⟩
theorem kk_Fu_32 : Cond.constantLong "AddressClaimBus$Function" 32 (lN 9223372036854775807) ∈ zx_T := wd_114
theorem fl_Fu_34 : zx_Fl "AddressClaimBus$Function" 34 1 9 .long false := ⟨_, _, _, _, kc_Fu, by decide, wd_213, rfl, rfl, rfl⟩
theorem fl_Fu_38 : zx_Fl "AddressClaimBus$Function" 38 1 0 (.object "AddressClaimBus$Bus") true := ⟨_, _, _, _, kc_Fu, by decide, wd_197, rfl, rfl, rfl⟩
theorem fl_Fu_42 : zx_Fl "AddressClaimBus$Function" 42 1 1 (.object "AddressClaimBus$Station") true := ⟨_, _, _, _, kc_Fu, by decide, wd_198, rfl, rfl, rfl⟩
theorem nw_Fu_46 : Cond.classLink "AddressClaimBus$Function" 46 "AddressClaimBus$Outgoing" ∈ zx_T ∧ Cond.instantiable "AddressClaimBus$Outgoing" 10 ∈ zx_T ∧ Cond.initialized "AddressClaimBus$Outgoing" ∈ zx_T := ⟨wd_115, wd_116, wd_6⟩
theorem ci_Fu_init_48 : zx_CI mi_Fu_init mi_Ou_init 48 my_Ou_init 2 := ⟨⟨wd_117, wd_118, wd_6, wd_119⟩, rfl, rfl, ⟨by decide, by decide, by decide +kernel⟩, ⟨rfl, rfl, by decide, by decide⟩⟩
theorem fl_Fu_51 : zx_Fl "AddressClaimBus$Function" 51 1 3 (.object "AddressClaimBus$Outgoing") true := ⟨_, _, _, _, kc_Fu, by decide, wd_202, rfl, rfl, rfl⟩
theorem nw_Fu_15 : Cond.classLink "AddressClaimBus$Function" 15 "AddressClaimBus$Incoming" ∈ zx_T ∧ Cond.instantiable "AddressClaimBus$Incoming" 9 ∈ zx_T ∧ Cond.initialized "AddressClaimBus$Incoming" ∈ zx_T := ⟨wd_81, wd_158, wd_7⟩
theorem ci_Fu_init_55 : zx_CI mi_Fu_init mi_In_init 55 my_In_init 2 := ⟨⟨wd_159, wd_160, wd_7, wd_161⟩, rfl, rfl, ⟨by decide, by decide, by decide +kernel⟩, ⟨rfl, rfl, by decide, by decide⟩⟩
theorem fl_Fu_56 : zx_Fl "AddressClaimBus$Function" 56 1 8 .long false := ⟨_, _, _, _, kc_Fu, by decide, wd_211, rfl, rfl, rfl⟩
theorem fl_Fu_59 : zx_Fl "AddressClaimBus$Function" 59 4 3 .int false := ⟨_, _, _, _, kc_Ou, by decide, wd_127, rfl, rfl, rfl⟩
theorem fl_Fu_62 : zx_Fl "AddressClaimBus$Function" 62 1 6 .int false := ⟨_, _, _, _, kc_Fu, by decide, wd_207, rfl, rfl, rfl⟩
theorem cv_Fu_switchOn_65 : zx_CV mi_Fu_switchOn mi_Fu_claim 65 my_Fu_claim 1 := ⟨⟨wd_262, wd_264, wp_3, wd_3, wd_265⟩, rfl, ⟨by decide, by decide, by decide +kernel⟩, ⟨rfl, rfl, by decide, by decide⟩⟩
theorem cv_Fu_switchOff_69 : zx_CV mi_Fu_switchOff mi_Fu_endSessions 69 my_Fu_endSessions 0 := ⟨⟨wd_284, wd_286, wp_5, wd_3, wd_287⟩, rfl, ⟨by decide, by decide, by decide +kernel⟩, ⟨rfl, rfl, by decide, by decide⟩⟩
theorem fl_Fu_72 : zx_Fl "AddressClaimBus$Function" 72 5 0 .int true := ⟨_, _, _, _, kc_St, by decide, wd_64, rfl, rfl, rfl⟩
theorem cv_Fu_switchOff_77 : zx_CV mi_Fu_switchOff mi_Bu_takeAwayFramesOf 77 my_Bu_takeAwayFramesOf 1 := ⟨⟨wd_296, wd_297, wd_298, wd_2, wd_299⟩, rfl, ⟨by decide, by decide, by decide +kernel⟩, ⟨rfl, rfl, by decide, by decide⟩⟩
theorem fl_Fu_82 : zx_Fl "AddressClaimBus$Function" 82 5 1 .int false := ⟨_, _, _, _, kc_St, by decide, wd_66, rfl, rfl, rfl⟩
theorem fl_Fu_85 : zx_Fl "AddressClaimBus$Function" 85 4 2 .int false := ⟨_, _, _, _, kc_Ou, by decide, wd_125, rfl, rfl, rfl⟩
theorem fl_Fu_88 : zx_Fl "AddressClaimBus$Function" 88 2 3 .boolean false := ⟨_, _, _, _, kc_In, by decide, wd_171, rfl, rfl, rfl⟩
theorem cv_Fu_reach_92 : zx_CV mi_Fu_reach mi_Fu_takeClaim 92 my_Fu_takeClaim 3 := ⟨⟨wd_380, wd_382, wp_7, wd_3, wd_383⟩, rfl, ⟨by decide, by decide, by decide +kernel⟩, ⟨rfl, rfl, by decide, by decide⟩⟩
theorem cv_Fu_reach_96 : zx_CV mi_Fu_reach mi_Fu_sendClaim 96 my_Fu_sendClaim 0 := ⟨⟨wd_267, wd_269, wp_4, wd_3, wd_270⟩, rfl, ⟨by decide, by decide, by decide +kernel⟩, ⟨rfl, rfl, by decide, by decide⟩⟩
theorem cv_Fu_reach_99 : zx_CV mi_Fu_reach mi_Fu_takeControl 99 my_Fu_takeControl 2 := ⟨⟨wd_401, wd_403, wp_12, wd_3, wd_404⟩, rfl, ⟨by decide, by decide, by decide +kernel⟩, ⟨rfl, rfl, by decide, by decide⟩⟩
theorem cv_Fu_reach_103 : zx_CV mi_Fu_reach mi_Fu_takePacket 103 my_Fu_takePacket 3 := ⟨⟨wd_466, wd_468, wp_18, wd_3, wd_469⟩, rfl, ⟨by decide, by decide, by decide +kernel⟩, ⟨rfl, rfl, by decide, by decide⟩⟩
theorem fl_Fu_107 : zx_Fl "AddressClaimBus$Function" 107 4 9 .long false := ⟨_, _, _, _, kc_Ou, by decide, wd_136, rfl, rfl, rfl⟩
theorem cw_Fu_110 : Cond.methodLink "AddressClaimBus$Function" 110 Lib.MathLoose.min_long.x ∈ zx_T ∧ Cond.static Lib.MathLoose.min_long.x ∈ zx_T ∧ Cond.initialized "java/lang/Math" ∈ zx_T ∧ Cond.code Lib.MathLoose.min_long.x Lib.MathLoose.min_long.code 4 (some .long) ∈ zx_T := ⟨wd_522, wd_523, wd_9, wd_524⟩
theorem fl_Fu_116 : zx_Fl "AddressClaimBus$Function" 116 2 8 .long false := ⟨_, _, _, _, kc_In, by decide, wd_177, rfl, rfl, rfl⟩
theorem fl_Fu_117 : zx_Fl "AddressClaimBus$Function" 117 0 5 .long false := ⟨_, _, _, _, kc_Bu, by decide, wd_36, rfl, rfl, rfl⟩
theorem cv_Fu_goOff_120 : zx_CV mi_Fu_goOff mi_Ou_goOff 120 my_Ou_goOff 0 := ⟨⟨wd_529, wd_530, wd_531, wd_6, wd_532⟩, rfl, ⟨by decide, by decide, by decide +kernel⟩, ⟨rfl, rfl, by decide, by decide⟩⟩
theorem cv_Fu_goOff_123 : zx_CV mi_Fu_goOff mi_In_goOff 123 my_In_goOff 0 := ⟨⟨wd_540, wd_541, wd_542, wd_7, wd_543⟩, rfl, ⟨by decide, by decide, by decide +kernel⟩, ⟨rfl, rfl, by decide, by decide⟩⟩
theorem kk_Fu_124 : Cond.constantLong "AddressClaimBus$Function" 124 (lN 250) ∈ zx_T := wd_266
theorem cv_Fu_claim_96 : zx_CV mi_Fu_claim mi_Fu_sendClaim 96 my_Fu_sendClaim 0 := ⟨⟨wd_267, wd_269, wp_4, wd_3, wd_270⟩, rfl, ⟨by decide, by decide, by decide +kernel⟩, ⟨rfl, rfl, by decide, by decide⟩⟩
theorem kk_Fu_126 : Cond.constant "AddressClaimBus$Function" 126 (nI 418250752) ∈ zx_T := wd_271
theorem cv_Fu_sendClaim_127 : zx_CV mi_Fu_sendClaim mi_Bu_put 127 my_Bu_put 4 := ⟨⟨wd_272, wd_273, wd_274, wd_2, wd_275⟩, rfl, ⟨by decide, by decide, by decide +kernel⟩, ⟨rfl, rfl, by decide, by decide⟩⟩
theorem cv_Fu_takeClaim_131 : zx_CV mi_Fu_takeClaim mi_Fu_isNameLessThan 131 my_Fu_isNameLessThan 1 := ⟨⟨wd_384, wd_386, wp_8, wd_3, wd_387⟩, rfl, ⟨by decide, by decide, by decide +kernel⟩, ⟨rfl, rfl, by decide, by decide⟩⟩
theorem cv_Fu_takeClaim_135 : zx_CV mi_Fu_takeClaim mi_Fu_loseAddress 135 my_Fu_loseAddress 0 := ⟨⟨wd_389, wd_391, wp_9, wd_3, wd_392⟩, rfl, ⟨by decide, by decide, by decide +kernel⟩, ⟨rfl, rfl, by decide, by decide⟩⟩
theorem cv_Fu_takeClaim_96 : zx_CV mi_Fu_takeClaim mi_Fu_sendClaim 96 my_Fu_sendClaim 0 := ⟨⟨wd_267, wd_269, wp_4, wd_3, wd_270⟩, rfl, ⟨by decide, by decide, by decide +kernel⟩, ⟨rfl, rfl, by decide, by decide⟩⟩
theorem kk_Fu_138 : Cond.constantLong "AddressClaimBus$Function" 138 (-9223372036854775808) ∈ zx_T := wd_388
theorem cv_Fu_loseAddress_69 : zx_CV mi_Fu_loseAddress mi_Fu_endSessions 69 my_Fu_endSessions 0 := ⟨⟨wd_284, wd_286, wp_5, wd_3, wd_287⟩, rfl, ⟨by decide, by decide, by decide +kernel⟩, ⟨rfl, rfl, by decide, by decide⟩⟩
theorem cv_Fu_loseAddress_140 : zx_CV mi_Fu_loseAddress mi_Fu_spareAddress 140 my_Fu_spareAddress 0 := ⟨⟨wd_393, wd_395, wp_10, wd_3, wd_396⟩, rfl, ⟨by decide, by decide, by decide +kernel⟩, ⟨rfl, rfl, by decide, by decide⟩⟩
theorem cv_Fu_loseAddress_65 : zx_CV mi_Fu_loseAddress mi_Fu_claim 65 my_Fu_claim 1 := ⟨⟨wd_262, wd_264, wp_3, wd_3, wd_265⟩, rfl, ⟨by decide, by decide, by decide +kernel⟩, ⟨rfl, rfl, by decide, by decide⟩⟩
theorem cv_Fu_loseAddress_96 : zx_CV mi_Fu_loseAddress mi_Fu_sendClaim 96 my_Fu_sendClaim 0 := ⟨⟨wd_267, wd_269, wp_4, wd_3, wd_270⟩, rfl, ⟨by decide, by decide, by decide +kernel⟩, ⟨rfl, rfl, by decide, by decide⟩⟩
theorem cv_Fu_spareAddress_144 : zx_CV mi_Fu_spareAddress mi_Fu_isNoted 144 my_Fu_isNoted 1 := ⟨⟨wd_397, wd_399, wp_11, wd_3, wd_400⟩, rfl, ⟨by decide, by decide, by decide +kernel⟩, ⟨rfl, rfl, by decide, by decide⟩⟩
theorem cv_Fu_endSessions_148 : zx_CV mi_Fu_endSessions mi_Ou_end 148 my_Ou_end 1 := ⟨⟨wd_288, wd_289, wd_290, wd_6, wd_291⟩, rfl, ⟨by decide, by decide, by decide +kernel⟩, ⟨rfl, rfl, by decide, by decide⟩⟩
theorem cv_Fu_endSessions_151 : zx_CV mi_Fu_endSessions mi_In_end 151 my_In_end 0 := ⟨⟨wd_292, wd_293, wd_294, wd_7, wd_295⟩, rfl, ⟨by decide, by decide, by decide +kernel⟩, ⟨rfl, rfl, by decide, by decide⟩⟩
theorem cs_Fu_takeControl_153 : zx_CN mi_Fu_takeControl mi_Ab_frameByte 153 my_Ab_frameByte 2 := ⟨⟨List.mem_of_getElem? (i := 2) rfl, wd_406, wd_1, wd_407⟩, ⟨by decide, by decide, by decide +kernel⟩, ⟨rfl, rfl, by decide, by decide⟩⟩
theorem cv_Fu_takeControl_157 : zx_CV mi_Fu_takeControl mi_Ou_isWith 157 my_Ou_isWith 2 := ⟨⟨wd_408, wd_409, wd_410, wd_6, wd_411⟩, rfl, ⟨by decide, by decide, by decide +kernel⟩, ⟨rfl, rfl, by decide, by decide⟩⟩
theorem cv_Fu_takeControl_161 : zx_CV mi_Fu_takeControl mi_Fu_takeOpening 161 my_Fu_takeOpening 4 := ⟨⟨wd_412, wd_414, wp_13, wd_3, wd_415⟩, rfl, ⟨by decide, by decide, by decide +kernel⟩, ⟨rfl, rfl, by decide, by decide⟩⟩
theorem cv_Fu_takeControl_165 : zx_CV mi_Fu_takeControl mi_Ou_takeGrant 165 my_Ou_takeGrant 2 := ⟨⟨wd_448, wd_449, wd_450, wd_6, wd_451⟩, rfl, ⟨by decide, by decide, by decide +kernel⟩, ⟨rfl, rfl, by decide, by decide⟩⟩
theorem cv_Fu_takeControl_148 : zx_CV mi_Fu_takeControl mi_Ou_end 148 my_Ou_end 1 := ⟨⟨wd_288, wd_289, wd_290, wd_6, wd_291⟩, rfl, ⟨by decide, by decide, by decide +kernel⟩, ⟨rfl, rfl, by decide, by decide⟩⟩
theorem cv_Fu_takeControl_169 : zx_CV mi_Fu_takeControl mi_Fu_abortIncoming 169 my_Fu_abortIncoming 2 := ⟨⟨wd_462, wd_464, wp_17, wd_3, wd_465⟩, rfl, ⟨by decide, by decide, by decide +kernel⟩, ⟨rfl, rfl, by decide, by decide⟩⟩
theorem cv_Fu_takeOpening_172 : zx_CV mi_Fu_takeOpening mi_In_isFrom 172 my_In_isFrom 2 := ⟨⟨wd_416, wd_417, wd_418, wd_7, wd_419⟩, rfl, ⟨by decide, by decide, by decide +kernel⟩, ⟨rfl, rfl, by decide, by decide⟩⟩
theorem cv_Fu_takeOpening_151 : zx_CV mi_Fu_takeOpening mi_In_end 151 my_In_end 0 := ⟨⟨wd_292, wd_293, wd_294, wd_7, wd_295⟩, rfl, ⟨by decide, by decide, by decide +kernel⟩, ⟨rfl, rfl, by decide, by decide⟩⟩
theorem cv_Fu_takeOpening_176 : zx_CV mi_Fu_takeOpening mi_Fu_countIncoming 176 my_Fu_countIncoming 0 := ⟨⟨wd_420, wd_421, wd_422, wd_3, wd_423⟩, rfl, ⟨by decide, by decide, by decide +kernel⟩, ⟨rfl, rfl, by decide, by decide⟩⟩
theorem cs_Fu_takeOpening_153 : zx_CN mi_Fu_takeOpening mi_Ab_frameByte 153 my_Ab_frameByte 2 := ⟨⟨List.mem_of_getElem? (i := 2) rfl, wd_406, wd_1, wd_407⟩, ⟨by decide, by decide, by decide +kernel⟩, ⟨rfl, rfl, by decide, by decide⟩⟩
theorem cv_Fu_takeOpening_179 : zx_CV mi_Fu_takeOpening mi_Fu_roomForIncoming 179 my_Fu_roomForIncoming 0 := ⟨⟨wd_424, wd_426, wp_14, wd_3, wd_427⟩, rfl, ⟨by decide, by decide, by decide +kernel⟩, ⟨rfl, rfl, by decide, by decide⟩⟩
theorem cv_Fu_takeOpening_183 : zx_CV mi_Fu_takeOpening mi_In_begin 183 my_In_begin 4 := ⟨⟨wd_428, wd_429, wd_430, wd_7, wd_431⟩, rfl, ⟨by decide, by decide, by decide +kernel⟩, ⟨rfl, rfl, by decide, by decide⟩⟩
theorem kk_Fu_187 : Cond.constant "AddressClaimBus$Function" 187 (nI 485228544) ∈ zx_T := wd_444
theorem cs_Fu_takeOpening_188 : zx_CN mi_Fu_takeOpening mi_Ab_abortData 188 my_Ab_abortData 2 := ⟨⟨List.mem_of_getElem? (i := 3) rfl, wd_446, wd_1, wd_447⟩, ⟨by decide, by decide, by decide +kernel⟩, ⟨rfl, rfl, by decide, by decide⟩⟩
theorem cv_Fu_takeOpening_127 : zx_CV mi_Fu_takeOpening mi_Bu_put 127 my_Bu_put 4 := ⟨⟨wd_272, wd_273, wd_274, wd_2, wd_275⟩, rfl, ⟨by decide, by decide, by decide +kernel⟩, ⟨rfl, rfl, by decide, by decide⟩⟩
theorem cv_Fu_abortIncoming_172 : zx_CV mi_Fu_abortIncoming mi_In_isFrom 172 my_In_isFrom 2 := ⟨⟨wd_416, wd_417, wd_418, wd_7, wd_419⟩, rfl, ⟨by decide, by decide, by decide +kernel⟩, ⟨rfl, rfl, by decide, by decide⟩⟩
theorem fl_Fu_192 : zx_Fl "AddressClaimBus$Function" 192 2 2 (.object "AddressClaimBus$Message") true := ⟨_, _, _, _, kc_In, by decide, wd_169, rfl, rfl, rfl⟩
theorem fl_Fu_195 : zx_Fl "AddressClaimBus$Function" 195 3 2 .int false := ⟨_, _, _, _, kc_Ms, by decide, wd_95, rfl, rfl, rfl⟩
theorem cv_Fu_abortIncoming_151 : zx_CV mi_Fu_abortIncoming mi_In_end 151 my_In_end 0 := ⟨⟨wd_292, wd_293, wd_294, wd_7, wd_295⟩, rfl, ⟨by decide, by decide, by decide +kernel⟩, ⟨rfl, rfl, by decide, by decide⟩⟩
theorem cv_Fu_takePacket_172 : zx_CV mi_Fu_takePacket mi_In_isFrom 172 my_In_isFrom 2 := ⟨⟨wd_416, wd_417, wd_418, wd_7, wd_419⟩, rfl, ⟨by decide, by decide, by decide +kernel⟩, ⟨rfl, rfl, by decide, by decide⟩⟩
theorem cv_Fu_takePacket_198 : zx_CV mi_Fu_takePacket mi_In_takeToAll 198 my_In_takeToAll 1 := ⟨⟨wd_470, wd_471, wd_472, wd_7, wd_473⟩, rfl, ⟨by decide, by decide, by decide +kernel⟩, ⟨rfl, rfl, by decide, by decide⟩⟩
theorem cv_Fu_takePacket_201 : zx_CV mi_Fu_takePacket mi_In_takeDirected 201 my_In_takeDirected 1 := ⟨⟨wd_488, wd_489, wd_490, wd_7, wd_491⟩, rfl, ⟨by decide, by decide, by decide +kernel⟩, ⟨rfl, rfl, by decide, by decide⟩⟩
theorem cv_Fu_takePacket_204 : zx_CV mi_Fu_takePacket mi_Ms_copy 204 my_Ms_copy 1 := ⟨⟨wd_498, wd_499, wd_500, wd_5, wd_501⟩, rfl, ⟨by decide, by decide, by decide +kernel⟩, ⟨rfl, rfl, by decide, by decide⟩⟩
theorem cw_In_obj : Cond.methodLink "AddressClaimBus$Incoming" 3 objectInit ∈ zx_T ∧ Cond.instanceMethod objectInit ∈ zx_T ∧ Cond.code objectInit ⟨#[0xb1]⟩ 1 none ∈ zx_T := ⟨wd_162, wd_16, wd_17⟩
theorem nw_In_9 : Cond.classLink "AddressClaimBus$Incoming" 9 "AddressClaimBus$Message" ∈ zx_T ∧ Cond.instantiable "AddressClaimBus$Message" 5 ∈ zx_T ∧ Cond.initialized "AddressClaimBus$Message" ∈ zx_T := ⟨wd_163, wd_84, wd_5⟩
theorem ci_In_init_11 : zx_CJ mi_In_init mi_Ms_init 11 my_Ms_init 0 := ⟨⟨List.mem_of_getElem? (i := 4) rfl, wd_86, wd_5, wd_87⟩, rfl, rfl, ⟨by decide, by decide, by decide +kernel⟩, ⟨rfl, rfl, by decide, by decide⟩⟩
theorem fl_In_12 : zx_Fl "AddressClaimBus$Incoming" 12 2 2 (.object "AddressClaimBus$Message") true := ⟨_, _, _, _, kc_In, by decide, wd_168, rfl, rfl, rfl⟩
theorem kk_In_18 : Cond.constantLong "AddressClaimBus$Incoming" 18 (lN 9223372036854775807) ∈ zx_T := wd_165
theorem fl_In_20 : zx_Fl "AddressClaimBus$Incoming" 20 2 8 .long false := ⟨_, _, _, _, kc_In, by decide, wd_176, rfl, rfl, rfl⟩
theorem fl_In_24 : zx_Fl "AddressClaimBus$Incoming" 24 2 0 (.object "AddressClaimBus$Bus") true := ⟨_, _, _, _, kc_In, by decide, wd_166, rfl, rfl, rfl⟩
theorem fl_In_28 : zx_Fl "AddressClaimBus$Incoming" 28 2 1 (.object "AddressClaimBus$Station") true := ⟨_, _, _, _, kc_In, by decide, wd_167, rfl, rfl, rfl⟩
theorem fl_In_32 : zx_Fl "AddressClaimBus$Incoming" 32 3 1 .int false := ⟨_, _, _, _, kc_Ms, by decide, wd_90, rfl, rfl, rfl⟩
theorem fl_In_36 : zx_Fl "AddressClaimBus$Incoming" 36 3 2 .int false := ⟨_, _, _, _, kc_Ms, by decide, wd_93, rfl, rfl, rfl⟩
theorem fl_In_39 : zx_Fl "AddressClaimBus$Incoming" 39 3 3 .int false := ⟨_, _, _, _, kc_Ms, by decide, wd_97, rfl, rfl, rfl⟩
theorem fl_In_42 : zx_Fl "AddressClaimBus$Incoming" 42 3 4 .boolean false := ⟨_, _, _, _, kc_Ms, by decide, wd_100, rfl, rfl, rfl⟩
theorem fl_In_46 : zx_Fl "AddressClaimBus$Incoming" 46 2 3 .boolean false := ⟨_, _, _, _, kc_In, by decide, wd_170, rfl, rfl, rfl⟩
theorem fl_In_49 : zx_Fl "AddressClaimBus$Incoming" 49 2 5 .int false := ⟨_, _, _, _, kc_In, by decide, wd_173, rfl, rfl, rfl⟩
theorem fl_In_52 : zx_Fl "AddressClaimBus$Incoming" 52 2 7 .int false := ⟨_, _, _, _, kc_In, by decide, wd_175, rfl, rfl, rfl⟩
theorem fl_In_55 : zx_Fl "AddressClaimBus$Incoming" 55 0 5 .long false := ⟨_, _, _, _, kc_Bu, by decide, wd_34, rfl, rfl, rfl⟩
theorem kk_In_60 : Cond.constantLong "AddressClaimBus$Incoming" 60 (lN 750) ∈ zx_T := wd_432
theorem cv_In_begin_62 : zx_CV mi_In_begin mi_In_grant 62 my_In_grant 0 := ⟨⟨wd_433, wd_435, wp_15, wd_7, wd_436⟩, rfl, ⟨by decide, by decide, by decide +kernel⟩, ⟨rfl, rfl, by decide, by decide⟩⟩
theorem cv_In_goOff_65 : zx_CV mi_In_goOff mi_In_end 65 my_In_end 0 := ⟨⟨wd_475, wd_293, wd_294, wd_7, wd_295⟩, rfl, ⟨by decide, by decide, by decide +kernel⟩, ⟨rfl, rfl, by decide, by decide⟩⟩
theorem fl_In_68 : zx_Fl "AddressClaimBus$Incoming" 68 2 4 .boolean false := ⟨_, _, _, _, kc_In, by decide, wd_172, rfl, rfl, rfl⟩
theorem cv_In_goOff_62 : zx_CV mi_In_goOff mi_In_grant 62 my_In_grant 0 := ⟨⟨wd_433, wd_435, wp_15, wd_7, wd_436⟩, rfl, ⟨by decide, by decide, by decide +kernel⟩, ⟨rfl, rfl, by decide, by decide⟩⟩
theorem cv_In_goOff_71 : zx_CV mi_In_goOff mi_In_askAgain 71 my_In_askAgain 1 := ⟨⟨wd_492, wd_494, wp_21, wd_7, wd_495⟩, rfl, ⟨by decide, by decide, by decide +kernel⟩, ⟨rfl, rfl, by decide, by decide⟩⟩
theorem cs_In_takeToAll_75 : zx_CN mi_In_takeToAll mi_Ab_frameByte 75 my_Ab_frameByte 2 := ⟨⟨List.mem_of_getElem? (i := 5) rfl, wd_406, wd_1, wd_407⟩, ⟨by decide, by decide, by decide +kernel⟩, ⟨rfl, rfl, by decide, by decide⟩⟩
theorem cv_In_takeToAll_65 : zx_CV mi_In_takeToAll mi_In_end 65 my_In_end 0 := ⟨⟨wd_475, wd_293, wd_294, wd_7, wd_295⟩, rfl, ⟨by decide, by decide, by decide +kernel⟩, ⟨rfl, rfl, by decide, by decide⟩⟩
theorem cv_In_takeToAll_79 : zx_CV mi_In_takeToAll mi_In_keepExpected 79 my_In_keepExpected 1 := ⟨⟨wd_476, wd_478, wp_19, wd_7, wd_479⟩, rfl, ⟨by decide, by decide, by decide +kernel⟩, ⟨rfl, rfl, by decide, by decide⟩⟩
theorem cv_In_takeToAll_83 : zx_CV mi_In_takeToAll mi_In_isWhole 83 my_In_isWhole 0 := ⟨⟨wd_484, wd_486, wp_20, wd_7, wd_487⟩, rfl, ⟨by decide, by decide, by decide +kernel⟩, ⟨rfl, rfl, by decide, by decide⟩⟩
theorem cs_In_takeDirected_75 : zx_CN mi_In_takeDirected mi_Ab_frameByte 75 my_Ab_frameByte 2 := ⟨⟨List.mem_of_getElem? (i := 5) rfl, wd_406, wd_1, wd_407⟩, ⟨by decide, by decide, by decide +kernel⟩, ⟨rfl, rfl, by decide, by decide⟩⟩
theorem fl_In_87 : zx_Fl "AddressClaimBus$Incoming" 87 2 6 .int false := ⟨_, _, _, _, kc_In, by decide, wd_174, rfl, rfl, rfl⟩
theorem cv_In_takeDirected_71 : zx_CV mi_In_takeDirected mi_In_askAgain 71 my_In_askAgain 1 := ⟨⟨wd_492, wd_494, wp_21, wd_7, wd_495⟩, rfl, ⟨by decide, by decide, by decide +kernel⟩, ⟨rfl, rfl, by decide, by decide⟩⟩
theorem cv_In_takeDirected_79 : zx_CV mi_In_takeDirected mi_In_keepExpected 79 my_In_keepExpected 1 := ⟨⟨wd_476, wd_478, wp_19, wd_7, wd_479⟩, rfl, ⟨by decide, by decide, by decide +kernel⟩, ⟨rfl, rfl, by decide, by decide⟩⟩
theorem cv_In_takeDirected_83 : zx_CV mi_In_takeDirected mi_In_isWhole 83 my_In_isWhole 0 := ⟨⟨wd_484, wd_486, wp_20, wd_7, wd_487⟩, rfl, ⟨by decide, by decide, by decide +kernel⟩, ⟨rfl, rfl, by decide, by decide⟩⟩
theorem kk_In_90 : Cond.constant "AddressClaimBus$Incoming" 90 (nI 485228544) ∈ zx_T := wd_442
theorem cs_In_takeDirected_91 : zx_CN mi_In_takeDirected mi_Ab_extentData 91 my_Ab_extentData 3 := ⟨⟨List.mem_of_getElem? (i := 6) rfl, wd_342, wd_1, wd_343⟩, ⟨by decide, by decide, by decide +kernel⟩, ⟨rfl, rfl, by decide, by decide⟩⟩
theorem cv_In_takeDirected_95 : zx_CV mi_In_takeDirected mi_Bu_put 95 my_Bu_put 4 := ⟨⟨wd_443, wd_273, wd_274, wd_2, wd_275⟩, rfl, ⟨by decide, by decide, by decide +kernel⟩, ⟨rfl, rfl, by decide, by decide⟩⟩
theorem cv_In_takeDirected_65 : zx_CV mi_In_takeDirected mi_In_end 65 my_In_end 0 := ⟨⟨wd_475, wd_293, wd_294, wd_7, wd_295⟩, rfl, ⟨by decide, by decide, by decide +kernel⟩, ⟨rfl, rfl, by decide, by decide⟩⟩
theorem cv_In_takeDirected_62 : zx_CV mi_In_takeDirected mi_In_grant 62 my_In_grant 0 := ⟨⟨wd_433, wd_435, wp_15, wd_7, wd_436⟩, rfl, ⟨by decide, by decide, by decide +kernel⟩, ⟨rfl, rfl, by decide, by decide⟩⟩
theorem cv_In_keepExpected_99 : zx_CV mi_In_keepExpected mi_Ms_keep 99 my_Ms_keep 2 := ⟨⟨wd_480, wd_481, wd_482, wd_5, wd_483⟩, rfl, ⟨by decide, by decide, by decide +kernel⟩, ⟨rfl, rfl, by decide, by decide⟩⟩
theorem cs_In_isWhole_103 : zx_CN mi_In_isWhole mi_Ab_packetsFor 103 my_Ab_packetsFor 1 := ⟨⟨List.mem_of_getElem? (i := 7) rfl, wd_345, wd_1, wd_346⟩, ⟨by decide, by decide, by decide +kernel⟩, ⟨rfl, rfl, by decide, by decide⟩⟩
theorem cv_In_askAgain_62 : zx_CV mi_In_askAgain mi_In_grant 62 my_In_grant 0 := ⟨⟨wd_433, wd_435, wp_15, wd_7, wd_436⟩, rfl, ⟨by decide, by decide, by decide +kernel⟩, ⟨rfl, rfl, by decide, by decide⟩⟩
theorem cs_In_askAgain_107 : zx_CN mi_In_askAgain mi_Ab_abortData 107 my_Ab_abortData 2 := ⟨⟨List.mem_of_getElem? (i := 8) rfl, wd_446, wd_1, wd_447⟩, ⟨by decide, by decide, by decide +kernel⟩, ⟨rfl, rfl, by decide, by decide⟩⟩
theorem cv_In_askAgain_95 : zx_CV mi_In_askAgain mi_Bu_put 95 my_Bu_put 4 := ⟨⟨wd_443, wd_273, wd_274, wd_2, wd_275⟩, rfl, ⟨by decide, by decide, by decide +kernel⟩, ⟨rfl, rfl, by decide, by decide⟩⟩
theorem cv_In_askAgain_65 : zx_CV mi_In_askAgain mi_In_end 65 my_In_end 0 := ⟨⟨wd_475, wd_293, wd_294, wd_7, wd_295⟩, rfl, ⟨by decide, by decide, by decide +kernel⟩, ⟨rfl, rfl, by decide, by decide⟩⟩
theorem fl_In_111 : zx_Fl "AddressClaimBus$Incoming" 111 5 2 .boolean false := ⟨_, _, _, _, kc_St, by decide, wd_69, rfl, rfl, rfl⟩
theorem cs_In_grant_103 : zx_CN mi_In_grant mi_Ab_packetsFor 103 my_Ab_packetsFor 1 := ⟨⟨List.mem_of_getElem? (i := 7) rfl, wd_345, wd_1, wd_346⟩, ⟨by decide, by decide, by decide +kernel⟩, ⟨rfl, rfl, by decide, by decide⟩⟩
theorem cw_In_116 : Cond.methodLink "AddressClaimBus$Incoming" 116 Lib.Math.min.name ∈ zx_T ∧ Cond.static Lib.Math.min.name ∈ zx_T ∧ Cond.initialized "java/lang/Math" ∈ zx_T ∧ Cond.code Lib.Math.min.name Lib.Math.min.code 2 (some .int) ∈ zx_T := ⟨wd_438, wd_439, wd_9, wd_440⟩
theorem cs_In_grant_122 : zx_CN mi_In_grant mi_Ab_controlData 122 my_Ab_controlData 5 := ⟨⟨List.mem_of_getElem? (i := 9) rfl, wd_348, wd_1, wd_349⟩, ⟨by decide, by decide, by decide +kernel⟩, ⟨rfl, rfl, by decide, by decide⟩⟩
theorem cv_In_grant_95 : zx_CV mi_In_grant mi_Bu_put 95 my_Bu_put 4 := ⟨⟨wd_443, wd_273, wd_274, wd_2, wd_275⟩, rfl, ⟨by decide, by decide, by decide +kernel⟩, ⟨rfl, rfl, by decide, by decide⟩⟩
theorem cw_Ms_obj : Cond.methodLink "AddressClaimBus$Message" 3 objectInit ∈ zx_T ∧ Cond.instanceMethod objectInit ∈ zx_T ∧ Cond.code objectInit ⟨#[0xb1]⟩ 1 none ∈ zx_T := ⟨wd_88, wd_16, wd_17⟩
theorem fl_Ms_9 : zx_Fl "AddressClaimBus$Message" 9 3 0 (.array .long) true := ⟨_, _, _, _, kc_Ms, by decide, wd_89, rfl, rfl, rfl⟩
theorem fl_Ms_15 : zx_Fl "AddressClaimBus$Message" 15 3 1 .int false := ⟨_, _, _, _, kc_Ms, by decide, wd_91, rfl, rfl, rfl⟩
theorem fl_Ms_19 : zx_Fl "AddressClaimBus$Message" 19 3 2 .int false := ⟨_, _, _, _, kc_Ms, by decide, wd_94, rfl, rfl, rfl⟩
theorem fl_Ms_22 : zx_Fl "AddressClaimBus$Message" 22 3 3 .int false := ⟨_, _, _, _, kc_Ms, by decide, wd_98, rfl, rfl, rfl⟩
theorem fl_Ms_25 : zx_Fl "AddressClaimBus$Message" 25 3 4 .boolean false := ⟨_, _, _, _, kc_Ms, by decide, wd_101, rfl, rfl, rfl⟩
theorem cs_Ms_byteAt_29 : zx_CN mi_Ms_byteAt mi_Ab_frameByte 29 my_Ab_frameByte 2 := ⟨⟨List.mem_of_getElem? (i := 10) rfl, wd_406, wd_1, wd_407⟩, ⟨by decide, by decide, by decide +kernel⟩, ⟨rfl, rfl, by decide, by decide⟩⟩
theorem cw_Ou_obj : Cond.methodLink "AddressClaimBus$Outgoing" 3 objectInit ∈ zx_T ∧ Cond.instanceMethod objectInit ∈ zx_T ∧ Cond.code objectInit ⟨#[0xb1]⟩ 1 none ∈ zx_T := ⟨wd_120, wd_16, wd_17⟩
theorem fl_Ou_9 : zx_Fl "AddressClaimBus$Outgoing" 9 4 2 .int false := ⟨_, _, _, _, kc_Ou, by decide, wd_124, rfl, rfl, rfl⟩
theorem kk_Ou_15 : Cond.constantLong "AddressClaimBus$Outgoing" 15 (lN 9223372036854775807) ∈ zx_T := wd_121
theorem fl_Ou_17 : zx_Fl "AddressClaimBus$Outgoing" 17 4 9 .long false := ⟨_, _, _, _, kc_Ou, by decide, wd_135, rfl, rfl, rfl⟩
theorem fl_Ou_21 : zx_Fl "AddressClaimBus$Outgoing" 21 4 0 (.object "AddressClaimBus$Bus") true := ⟨_, _, _, _, kc_Ou, by decide, wd_122, rfl, rfl, rfl⟩
theorem fl_Ou_25 : zx_Fl "AddressClaimBus$Outgoing" 25 4 1 (.object "AddressClaimBus$Station") true := ⟨_, _, _, _, kc_Ou, by decide, wd_123, rfl, rfl, rfl⟩
theorem fl_Ou_29 : zx_Fl "AddressClaimBus$Outgoing" 29 4 4 .int false := ⟨_, _, _, _, kc_Ou, by decide, wd_130, rfl, rfl, rfl⟩
theorem fl_Ou_32 : zx_Fl "AddressClaimBus$Outgoing" 32 4 5 .int false := ⟨_, _, _, _, kc_Ou, by decide, wd_131, rfl, rfl, rfl⟩
theorem fl_Ou_35 : zx_Fl "AddressClaimBus$Outgoing" 35 4 6 .int false := ⟨_, _, _, _, kc_Ou, by decide, wd_132, rfl, rfl, rfl⟩
theorem fl_Ou_38 : zx_Fl "AddressClaimBus$Outgoing" 38 4 7 .long false := ⟨_, _, _, _, kc_Ou, by decide, wd_133, rfl, rfl, rfl⟩
theorem fl_Ou_41 : zx_Fl "AddressClaimBus$Outgoing" 41 4 8 .int false := ⟨_, _, _, _, kc_Ou, by decide, wd_134, rfl, rfl, rfl⟩
theorem kk_Ou_44 : Cond.constant "AddressClaimBus$Outgoing" 44 (nI 485228544) ∈ zx_T := wd_340
theorem cs_Ou_begin_45 : zx_CN mi_Ou_begin mi_Ab_extentData 45 my_Ab_extentData 3 := ⟨⟨List.mem_of_getElem? (i := 11) rfl, wd_342, wd_1, wd_343⟩, ⟨by decide, by decide, by decide +kernel⟩, ⟨rfl, rfl, by decide, by decide⟩⟩
theorem cv_Ou_begin_49 : zx_CV mi_Ou_begin mi_Bu_put 49 my_Bu_put 4 := ⟨⟨wd_351, wd_273, wd_274, wd_2, wd_275⟩, rfl, ⟨by decide, by decide, by decide +kernel⟩, ⟨rfl, rfl, by decide, by decide⟩⟩
theorem fl_Ou_55 : zx_Fl "AddressClaimBus$Outgoing" 55 0 5 .long false := ⟨_, _, _, _, kc_Bu, by decide, wd_35, rfl, rfl, rfl⟩
theorem fl_Ou_58 : zx_Fl "AddressClaimBus$Outgoing" 58 4 3 .int false := ⟨_, _, _, _, kc_Ou, by decide, wd_128, rfl, rfl, rfl⟩
theorem kk_Ou_61 : Cond.constantLong "AddressClaimBus$Outgoing" 61 (lN 1050) ∈ zx_T := wd_452
theorem cs_Ou_takeGrant_63 : zx_CN mi_Ou_takeGrant mi_Ab_packetsFor 63 my_Ab_packetsFor 1 := ⟨⟨List.mem_of_getElem? (i := 12) rfl, wd_345, wd_1, wd_346⟩, ⟨by decide, by decide, by decide +kernel⟩, ⟨rfl, rfl, by decide, by decide⟩⟩
theorem cw_Ou_67 : Cond.methodLink "AddressClaimBus$Outgoing" 67 Lib.Math.min.name ∈ zx_T ∧ Cond.static Lib.Math.min.name ∈ zx_T ∧ Cond.initialized "java/lang/Math" ∈ zx_T ∧ Cond.code Lib.Math.min.name Lib.Math.min.code 2 (some .int) ∈ zx_T := ⟨wd_454, wd_439, wd_9, wd_440⟩
theorem cv_Ou_takeGrant_73 : zx_CV mi_Ou_takeGrant mi_Ou_sendPacket 73 my_Ou_sendPacket 1 := ⟨⟨wd_455, wd_457, wp_16, wd_6, wd_458⟩, rfl, ⟨by decide, by decide, by decide +kernel⟩, ⟨rfl, rfl, by decide, by decide⟩⟩
theorem kk_Ou_77 : Cond.constantLong "AddressClaimBus$Outgoing" 77 (lN 1250) ∈ zx_T := wd_461
theorem cv_Ou_goOff_79 : zx_CV mi_Ou_goOff mi_Ou_sendNextToAll 79 my_Ou_sendNextToAll 0 := ⟨⟨wd_533, wd_535, wp_23, wd_6, wd_536⟩, rfl, ⟨by decide, by decide, by decide +kernel⟩, ⟨rfl, rfl, by decide, by decide⟩⟩
theorem cs_Ou_goOff_82 : zx_CN mi_Ou_goOff mi_Ab_abortData 82 my_Ab_abortData 2 := ⟨⟨List.mem_of_getElem? (i := 13) rfl, wd_446, wd_1, wd_447⟩, ⟨by decide, by decide, by decide +kernel⟩, ⟨rfl, rfl, by decide, by decide⟩⟩
theorem cv_Ou_goOff_49 : zx_CV mi_Ou_goOff mi_Bu_put 49 my_Bu_put 4 := ⟨⟨wd_351, wd_273, wd_274, wd_2, wd_275⟩, rfl, ⟨by decide, by decide, by decide +kernel⟩, ⟨rfl, rfl, by decide, by decide⟩⟩
theorem cv_Ou_goOff_86 : zx_CV mi_Ou_goOff mi_Ou_end 86 my_Ou_end 1 := ⟨⟨wd_537, wd_289, wd_290, wd_6, wd_291⟩, rfl, ⟨by decide, by decide, by decide +kernel⟩, ⟨rfl, rfl, by decide, by decide⟩⟩
theorem cv_Ou_sendNextToAll_73 : zx_CV mi_Ou_sendNextToAll mi_Ou_sendPacket 73 my_Ou_sendPacket 1 := ⟨⟨wd_455, wd_457, wp_16, wd_6, wd_458⟩, rfl, ⟨by decide, by decide, by decide +kernel⟩, ⟨rfl, rfl, by decide, by decide⟩⟩
theorem cs_Ou_sendNextToAll_63 : zx_CN mi_Ou_sendNextToAll mi_Ab_packetsFor 63 my_Ab_packetsFor 1 := ⟨⟨List.mem_of_getElem? (i := 12) rfl, wd_345, wd_1, wd_346⟩, ⟨by decide, by decide, by decide +kernel⟩, ⟨rfl, rfl, by decide, by decide⟩⟩
theorem cv_Ou_sendNextToAll_86 : zx_CV mi_Ou_sendNextToAll mi_Ou_end 86 my_Ou_end 1 := ⟨⟨wd_537, wd_289, wd_290, wd_6, wd_291⟩, rfl, ⟨by decide, by decide, by decide +kernel⟩, ⟨rfl, rfl, by decide, by decide⟩⟩
theorem kk_Ou_89 : Cond.constantLong "AddressClaimBus$Outgoing" 89 (lN 50) ∈ zx_T := wd_538
theorem kk_Ou_91 : Cond.constantLong "AddressClaimBus$Outgoing" 91 (lN 255) ∈ zx_T := wd_459
theorem kk_Ou_93 : Cond.constant "AddressClaimBus$Outgoing" 93 (nI 485163008) ∈ zx_T := wd_460
theorem cv_Ou_sendPacket_49 : zx_CV mi_Ou_sendPacket mi_Bu_put 49 my_Bu_put 4 := ⟨⟨wd_351, wd_273, wd_274, wd_2, wd_275⟩, rfl, ⟨by decide, by decide, by decide +kernel⟩, ⟨rfl, rfl, by decide, by decide⟩⟩
theorem cw_St_obj : Cond.methodLink "AddressClaimBus$Station" 1 objectInit ∈ zx_T ∧ Cond.instanceMethod objectInit ∈ zx_T ∧ Cond.code objectInit ⟨#[0xb1]⟩ 1 none ∈ zx_T := ⟨wd_61, wd_16, wd_17⟩
theorem fl_St_7 : zx_Fl "AddressClaimBus$Station" 7 5 0 .int true := ⟨_, _, _, _, kc_St, by decide, wd_62, rfl, rfl, rfl⟩
theorem nw_La_7 : Cond.classLink "AddressClaimBusLaw" 7 "AddressClaimBus" ∈ zx_T ∧ Cond.instantiable "AddressClaimBus" 2 ∈ zx_T ∧ Cond.initialized "AddressClaimBus" ∈ zx_T := ⟨wd_10, wd_11, wd_1⟩
theorem ci_La_law_9 : zx_CI mi_La_law mi_Ab_init 9 my_Ab_init 0 := ⟨⟨wd_12, wd_13, wd_1, wd_14⟩, rfl, rfl, ⟨by decide, by decide, by decide +kernel⟩, ⟨rfl, rfl, by decide, by decide⟩⟩
theorem nw_La_10 : Cond.classLink "AddressClaimBusLaw" 10 "AddressClaimBusModel" ∈ zx_T ∧ Cond.instantiable "AddressClaimBusModel" 34 ∈ zx_T ∧ Cond.initialized "AddressClaimBusModel" ∈ zx_T := ⟨wd_574, wd_575, wd_8⟩
theorem ci_La_law_12 : zx_CI mi_La_law mi_Md_init 12 my_Md_init 0 := ⟨⟨wd_576, wd_577, wd_8, wd_578⟩, rfl, rfl, ⟨by decide, by decide, by decide +kernel⟩, ⟨rfl, rfl, by decide, by decide⟩⟩
theorem kk_La_13 : Cond.constantLong "AddressClaimBusLaw" 13 (lN 4294967295) ∈ zx_T := wd_875
theorem cv_La_law_15 : zx_CV mi_La_law mi_Ab_start 15 my_Ab_start 3 := ⟨⟨wd_242, wd_243, wd_244, wd_1, wd_245⟩, rfl, ⟨by decide, by decide, by decide +kernel⟩, ⟨rfl, rfl, by decide, by decide⟩⟩
theorem cv_La_law_19 : zx_CV mi_La_law mi_Md_start 19 my_Md_start 3 := ⟨⟨wd_801, wd_802, wd_803, wd_8, wd_804⟩, rfl, ⟨by decide, by decide, by decide +kernel⟩, ⟨rfl, rfl, by decide, by decide⟩⟩
theorem cv_La_law_20 : zx_CV mi_La_law mi_Ab_stop 20 my_Ab_stop 1 := ⟨⟨wd_276, wd_277, wd_278, wd_1, wd_279⟩, rfl, ⟨by decide, by decide, by decide +kernel⟩, ⟨rfl, rfl, by decide, by decide⟩⟩
theorem cv_La_law_24 : zx_CV mi_La_law mi_Md_stop 24 my_Md_stop 1 := ⟨⟨wd_805, wd_806, wd_807, wd_8, wd_808⟩, rfl, ⟨by decide, by decide, by decide +kernel⟩, ⟨rfl, rfl, by decide, by decide⟩⟩
theorem cv_La_law_25 : zx_CV mi_La_law mi_Ab_busy 25 my_Ab_busy 2 := ⟨⟨wd_304, wd_305, wd_306, wd_1, wd_307⟩, rfl, ⟨by decide, by decide, by decide +kernel⟩, ⟨rfl, rfl, by decide, by decide⟩⟩
theorem cv_La_law_29 : zx_CV mi_La_law mi_Md_busy 29 my_Md_busy 2 := ⟨⟨wd_813, wd_814, wd_815, wd_8, wd_816⟩, rfl, ⟨by decide, by decide, by decide +kernel⟩, ⟨rfl, rfl, by decide, by decide⟩⟩
theorem cv_La_law_30 : zx_CV mi_La_law mi_Ab_state 30 my_Ab_state 1 := ⟨⟨wd_308, wd_309, wd_310, wd_1, wd_311⟩, rfl, ⟨by decide, by decide, by decide +kernel⟩, ⟨rfl, rfl, by decide, by decide⟩⟩
theorem cv_La_law_34 : zx_CV mi_La_law mi_Md_state 34 my_Md_state 1 := ⟨⟨wd_817, wd_818, wd_819, wd_8, wd_820⟩, rfl, ⟨by decide, by decide, by decide +kernel⟩, ⟨rfl, rfl, by decide, by decide⟩⟩
theorem cv_La_law_35 : zx_CV mi_La_law mi_Ab_address 35 my_Ab_address 1 := ⟨⟨wd_312, wd_313, wd_314, wd_1, wd_315⟩, rfl, ⟨by decide, by decide, by decide +kernel⟩, ⟨rfl, rfl, by decide, by decide⟩⟩
theorem cv_La_law_38 : zx_CV mi_La_law mi_Md_address 38 my_Md_address 1 := ⟨⟨wd_821, wd_822, wd_823, wd_8, wd_824⟩, rfl, ⟨by decide, by decide, by decide +kernel⟩, ⟨rfl, rfl, by decide, by decide⟩⟩
theorem cv_La_law_39 : zx_CV mi_La_law mi_Ab_noted 39 my_Ab_noted 2 := ⟨⟨wd_316, wd_317, wd_318, wd_1, wd_319⟩, rfl, ⟨by decide, by decide, by decide +kernel⟩, ⟨rfl, rfl, by decide, by decide⟩⟩
theorem cv_La_law_43 : zx_CV mi_La_law mi_Md_noted 43 my_Md_noted 2 := ⟨⟨wd_825, wd_826, wd_827, wd_8, wd_828⟩, rfl, ⟨by decide, by decide, by decide +kernel⟩, ⟨rfl, rfl, by decide, by decide⟩⟩
theorem cv_La_law_44 : zx_CV mi_La_law mi_Ab_request 44 my_Ab_request 1 := ⟨⟨wd_320, wd_321, wd_322, wd_1, wd_323⟩, rfl, ⟨by decide, by decide, by decide +kernel⟩, ⟨rfl, rfl, by decide, by decide⟩⟩
theorem cv_La_law_47 : zx_CV mi_La_law mi_Md_request 47 my_Md_request 1 := ⟨⟨wd_829, wd_830, wd_831, wd_8, wd_832⟩, rfl, ⟨by decide, by decide, by decide +kernel⟩, ⟨rfl, rfl, by decide, by decide⟩⟩
theorem cv_La_law_48 : zx_CV mi_La_law mi_Ab_send 48 my_Ab_send 5 := ⟨⟨wd_327, wd_328, wd_329, wd_1, wd_330⟩, rfl, ⟨by decide, by decide, by decide +kernel⟩, ⟨rfl, rfl, by decide, by decide⟩⟩
theorem cv_La_law_52 : zx_CV mi_La_law mi_Md_send 52 my_Md_send 5 := ⟨⟨wd_834, wd_835, wd_836, wd_8, wd_837⟩, rfl, ⟨by decide, by decide, by decide +kernel⟩, ⟨rfl, rfl, by decide, by decide⟩⟩
theorem cv_La_law_53 : zx_CV mi_La_law mi_Ab_waiting 53 my_Ab_waiting 0 := ⟨⟨wd_352, wd_353, wd_354, wd_1, wd_355⟩, rfl, ⟨by decide, by decide, by decide +kernel⟩, ⟨rfl, rfl, by decide, by decide⟩⟩
theorem cv_La_law_57 : zx_CV mi_La_law mi_Md_waiting 57 my_Md_waiting 0 := ⟨⟨wd_684, wd_685, wd_686, wd_8, wd_687⟩, rfl, ⟨by decide, by decide, by decide +kernel⟩, ⟨rfl, rfl, by decide, by decide⟩⟩
theorem cv_La_law_58 : zx_CV mi_La_law mi_Ab_identifier 58 my_Ab_identifier 0 := ⟨⟨wd_356, wd_357, wd_358, wd_1, wd_359⟩, rfl, ⟨by decide, by decide, by decide +kernel⟩, ⟨rfl, rfl, by decide, by decide⟩⟩
theorem cv_La_law_61 : zx_CV mi_La_law mi_Md_identifier 61 my_Md_identifier 0 := ⟨⟨wd_688, wd_689, wd_690, wd_8, wd_691⟩, rfl, ⟨by decide, by decide, by decide +kernel⟩, ⟨rfl, rfl, by decide, by decide⟩⟩
theorem cv_La_law_62 : zx_CV mi_La_law mi_Ab_data 62 my_Ab_data 0 := ⟨⟨wd_364, wd_365, wd_366, wd_1, wd_367⟩, rfl, ⟨by decide, by decide, by decide +kernel⟩, ⟨rfl, rfl, by decide, by decide⟩⟩
theorem cv_La_law_66 : zx_CV mi_La_law mi_Md_data 66 my_Md_data 0 := ⟨⟨wd_696, wd_697, wd_698, wd_8, wd_699⟩, rfl, ⟨by decide, by decide, by decide +kernel⟩, ⟨rfl, rfl, by decide, by decide⟩⟩
theorem cv_La_law_67 : zx_CV mi_La_law mi_Ab_deliver 67 my_Ab_deliver 1 := ⟨⟨wd_368, wd_369, wd_370, wd_1, wd_371⟩, rfl, ⟨by decide, by decide, by decide +kernel⟩, ⟨rfl, rfl, by decide, by decide⟩⟩
theorem cv_La_law_71 : zx_CV mi_La_law mi_Md_deliver 71 my_Md_deliver 1 := ⟨⟨wd_712, wd_713, wd_714, wd_8, wd_715⟩, rfl, ⟨by decide, by decide, by decide +kernel⟩, ⟨rfl, rfl, by decide, by decide⟩⟩
theorem cv_La_law_72 : zx_CV mi_La_law mi_Ab_lose 72 my_Ab_lose 0 := ⟨⟨wd_502, wd_503, wd_504, wd_1, wd_505⟩, rfl, ⟨by decide, by decide, by decide +kernel⟩, ⟨rfl, rfl, by decide, by decide⟩⟩
theorem cv_La_law_76 : zx_CV mi_La_law mi_Md_lose 76 my_Md_lose 0 := ⟨⟨wd_700, wd_701, wd_702, wd_8, wd_703⟩, rfl, ⟨by decide, by decide, by decide +kernel⟩, ⟨rfl, rfl, by decide, by decide⟩⟩
theorem cv_La_law_77 : zx_CV mi_La_law mi_Ab_overflowed 77 my_Ab_overflowed 0 := ⟨⟨wd_506, wd_507, wd_508, wd_1, wd_509⟩, rfl, ⟨by decide, by decide, by decide +kernel⟩, ⟨rfl, rfl, by decide, by decide⟩⟩
theorem cv_La_law_80 : zx_CV mi_La_law mi_Md_overflowed 80 my_Md_overflowed 0 := ⟨⟨wd_708, wd_709, wd_710, wd_8, wd_711⟩, rfl, ⟨by decide, by decide, by decide +kernel⟩, ⟨rfl, rfl, by decide, by decide⟩⟩
theorem cv_La_law_81 : zx_CV mi_La_law mi_Ab_tick 81 my_Ab_tick 1 := ⟨⟨wd_510, wd_511, wd_512, wd_1, wd_513⟩, rfl, ⟨by decide, by decide, by decide +kernel⟩, ⟨rfl, rfl, by decide, by decide⟩⟩
theorem cv_La_law_84 : zx_CV mi_La_law mi_Md_tick 84 my_Md_tick 1 := ⟨⟨wd_839, wd_840, wd_841, wd_8, wd_842⟩, rfl, ⟨by decide, by decide, by decide +kernel⟩, ⟨rfl, rfl, by decide, by decide⟩⟩
theorem cv_La_law_85 : zx_CV mi_La_law mi_Ab_outgoing 85 my_Ab_outgoing 1 := ⟨⟨wd_544, wd_545, wd_546, wd_1, wd_547⟩, rfl, ⟨by decide, by decide, by decide +kernel⟩, ⟨rfl, rfl, by decide, by decide⟩⟩
theorem cv_La_law_88 : zx_CV mi_La_law mi_Md_outgoing 88 my_Md_outgoing 1 := ⟨⟨wd_855, wd_856, wd_857, wd_8, wd_858⟩, rfl, ⟨by decide, by decide, by decide +kernel⟩, ⟨rfl, rfl, by decide, by decide⟩⟩
theorem cv_La_law_89 : zx_CV mi_La_law mi_Ab_incoming 89 my_Ab_incoming 1 := ⟨⟨wd_548, wd_549, wd_550, wd_1, wd_551⟩, rfl, ⟨by decide, by decide, by decide +kernel⟩, ⟨rfl, rfl, by decide, by decide⟩⟩
theorem cv_La_law_92 : zx_CV mi_La_law mi_Md_incoming 92 my_Md_incoming 1 := ⟨⟨wd_859, wd_860, wd_861, wd_8, wd_862⟩, rfl, ⟨by decide, by decide, by decide +kernel⟩, ⟨rfl, rfl, by decide, by decide⟩⟩
theorem cv_La_law_93 : zx_CV mi_La_law mi_Ab_delivered 93 my_Ab_delivered 1 := ⟨⟨wd_553, wd_554, wd_555, wd_1, wd_556⟩, rfl, ⟨by decide, by decide, by decide +kernel⟩, ⟨rfl, rfl, by decide, by decide⟩⟩
theorem cv_La_law_96 : zx_CV mi_La_law mi_Md_delivered 96 my_Md_delivered 1 := ⟨⟨wd_863, wd_864, wd_865, wd_8, wd_866⟩, rfl, ⟨by decide, by decide, by decide +kernel⟩, ⟨rfl, rfl, by decide, by decide⟩⟩
theorem cv_La_law_97 : zx_CV mi_La_law mi_Ab_message 97 my_Ab_message 2 := ⟨⟨wd_557, wd_558, wd_559, wd_1, wd_560⟩, rfl, ⟨by decide, by decide, by decide +kernel⟩, ⟨rfl, rfl, by decide, by decide⟩⟩
theorem cv_La_law_100 : zx_CV mi_La_law mi_Md_message 100 my_Md_message 2 := ⟨⟨wd_867, wd_868, wd_869, wd_8, wd_870⟩, rfl, ⟨by decide, by decide, by decide +kernel⟩, ⟨rfl, rfl, by decide, by decide⟩⟩
theorem cv_La_law_101 : zx_CV mi_La_law mi_Ab_byteOf 101 my_Ab_byteOf 2 := ⟨⟨wd_565, wd_566, wd_567, wd_1, wd_568⟩, rfl, ⟨by decide, by decide, by decide +kernel⟩, ⟨rfl, rfl, by decide, by decide⟩⟩
theorem cv_La_law_104 : zx_CV mi_La_law mi_Md_byteOf 104 my_Md_byteOf 2 := ⟨⟨wd_871, wd_872, wd_873, wd_8, wd_874⟩, rfl, ⟨by decide, by decide, by decide +kernel⟩, ⟨rfl, rfl, by decide, by decide⟩⟩
theorem ac_int : Cond.arrayClass .int ∈ zx_T := wd_51
theorem ac_long : Cond.arrayClass .long ∈ zx_T := wd_52
theorem ac_boolean : Cond.arrayClass .boolean ∈ zx_T := wd_683
