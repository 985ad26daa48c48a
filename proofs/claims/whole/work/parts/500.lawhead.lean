/-! THE CLAIM OUT OF ONE WALK OF THE LAW'S BODY. Your part is whole_start (and what it stands on); all else here is the same for every law, but numbers. -/
def R_law : String := "CellEngineLaw"
def lw_P (b : Addr) (xs : List Int32) (args : Array Value) (s : State) : Prop := args = #[.ref b] ∧ s.IntsAt b xs ∧ xs.length ≤ 3584 ∧ (Jvm.Cond.and given_1 narrow_1).before args s = true
def lw_Q (_ : Array Value) (s : State) (o : Outcome) (t : State) : Prop := o = .returned (some (.int 1)) ∧ Framed s o t [] 60000 8922250
def lw_Z (below : List Frame) (a : Array Value) (s : State) : State → Prop := fun t => ∃ o, t.status = .running ∧ Ended t below o ∧ lw_Q a s o t
/-- the law's own end, with 1 on the stack, nothing written that was there before, its room as the claim has it -/
theorem lw_ret {p : Program} {l : Launch} {e : Env} {s : State} {m : MethodId} {below : List Frame} {meth : Method} {c : Code} {b : Nat} (hx : p.tables.exec = Jvm.exec) (hb : c.code = code) (hr : meth.sig.returnType = ret) (hlocks : meth.locks = false) {pc : Nat} {H : Heap} {ls : Array Slot} (hdg : decode code pc = .ok (.ireturn, 1)) : W p l e room_1 s m #[Value.ref b] below meth c H [] 60000 8922250 (lw_Z below #[Value.ref b] s) (F0 m pc ls [.int 1]) := by
  intro T hT X
  obtain ⟨fs, hret, hrun, hended, hW, hframe⟩ := X.leave (v := some (.int 1)) (hlocks := hlocks) (fun h => by rw [hr] at h; cases h)
  have hmeth' : T.vm.method? m = some meth := X.method'
  refine ⟨T.setFrames fs, ?_, .returned (some (.int 1)), hrun, hended, rfl, ⟨_, rfl⟩, hW, hframe⟩
  jvm_step X.here [X.here.top, hx, hb, hdg, hmeth', hr, ret, narrow_b1]
  (try refine ⟨rfl, ?_⟩); (try refine ⟨rfl, ?_⟩)
  first | (intro acts; rw [hret _ acts rfl rfl rfl]) | rw [hret _ _ rfl rfl rfl]
  exact Steps.refl _
/-- what holds at the law's entry: the machine, the code, the tables' words (any of lw_tbl by 'hts w (by decide +kernel)'), the script of L ints xs at the cell b, what the Statement gives of the start (any of its parts by flat_of_before) -/
def lw_At (p : Program) (s : State) (m : MethodId) (meth : Method) (c : Code) (b L : Nat) (xs : Nat → Int32) : Prop :=
  p.tables.exec = Jvm.exec ∧ c.code = code ∧ meth.sig.returnType = ret ∧ c.maxLocals = 4 ∧ s.vm.findClass R_law = some m.cls ∧ (∀ w ∈ lw_tbl, w.before #[Value.ref b] s = true) ∧ va_X b L xs s s.heap ∧ b < s.heap.size ∧ meth.locks = false ∧ (Jvm.Cond.and given_1 narrow_1).before #[Value.ref b] s = true
abbrev b_law : ByteArray := code
theorem k1112 : Cond.classLink R_law 7 R_Engine ∈ lw_g := kg (List.mem_append_right _ (List.mem_of_getElem? (i := 17) (by decide +kernel))) rfl
theorem k1113 : Cond.instantiable R_Engine 4 ∈ lw_g := kg (List.mem_append_right _ (List.mem_of_getElem? (i := 18) (by decide +kernel))) rfl
theorem k1114 : Cond.code y_Engine_init b_Engine_init 2 none ∈ lw_g := kg (List.mem_append_right _ (List.mem_of_getElem? (i := 21) (by decide +kernel))) rfl
theorem k1115 : Cond.methodLink R_law 9 y_Engine_init ∈ lw_g := kg (List.mem_append_right _ (List.mem_of_getElem? (i := 19) (by decide +kernel))) rfl
theorem k1116 : Cond.instanceMethod y_Engine_init ∈ lw_g := kg (List.mem_append_right _ (List.mem_of_getElem? (i := 20) (by decide +kernel))) rfl
theorem k1117 : Cond.classLink R_law 10 R_Model ∈ lw_g := kg (List.mem_append_right _ (List.mem_of_getElem? (i := 1007) (by decide +kernel))) rfl
theorem k1118 : Cond.instantiable R_Model 54 ∈ lw_g := kg (List.mem_append_right _ (List.mem_of_getElem? (i := 1008) (by decide +kernel))) rfl
theorem k1119 : Cond.code y_Model_init b_Model_init 2 none ∈ lw_g := kg (List.mem_append_right _ (List.mem_of_getElem? (i := 1011) (by decide +kernel))) rfl
theorem k1120 : Cond.methodLink R_law 12 y_Model_init ∈ lw_g := kg (List.mem_append_right _ (List.mem_of_getElem? (i := 1009) (by decide +kernel))) rfl
theorem k1121 : Cond.instanceMethod y_Model_init ∈ lw_g := kg (List.mem_append_right _ (List.mem_of_getElem? (i := 1010) (by decide +kernel))) rfl
theorem k1122 : Cond.constantLong R_law 22 4294967295 ∈ lw_g := kg (List.mem_append_right _ (List.mem_of_getElem? (i := 1542) (by decide +kernel))) rfl
theorem k1123 : Cond.code y_Engine_code b_Engine_code 2 (some .int) ∈ lw_g := kg (List.mem_append_right _ (List.mem_of_getElem? (i := 347) (by decide +kernel))) rfl
theorem k1124 : Cond.methodLink R_law 13 y_Engine_code ∈ lw_g := kg (List.mem_append_right _ (List.mem_of_getElem? (i := 344) (by decide +kernel))) rfl
theorem k1125 : Cond.instanceMethod y_Engine_code ∈ lw_g := kg (List.mem_append_right _ (List.mem_of_getElem? (i := 345) (by decide +kernel))) rfl
theorem k1126 : Cond.selects R_Engine y_Engine_code y_Engine_code ∈ lw_g := kg (List.mem_append_right _ (List.mem_of_getElem? (i := 346) (by decide +kernel))) rfl
theorem k1127 : Cond.code y_Model_code b_Model_code 2 (some .int) ∈ lw_g := kg (List.mem_append_right _ (List.mem_of_getElem? (i := 1185) (by decide +kernel))) rfl
theorem k1128 : Cond.methodLink R_law 17 y_Model_code ∈ lw_g := kg (List.mem_append_right _ (List.mem_of_getElem? (i := 1182) (by decide +kernel))) rfl
theorem k1129 : Cond.instanceMethod y_Model_code ∈ lw_g := kg (List.mem_append_right _ (List.mem_of_getElem? (i := 1183) (by decide +kernel))) rfl
theorem k1130 : Cond.selects R_Model y_Model_code y_Model_code ∈ lw_g := kg (List.mem_append_right _ (List.mem_of_getElem? (i := 1184) (by decide +kernel))) rfl
theorem k1131 : Cond.code y_Engine_cut b_Engine_cut 2 (some .int) ∈ lw_g := kg (List.mem_append_right _ (List.mem_of_getElem? (i := 379) (by decide +kernel))) rfl
theorem k1132 : Cond.methodLink R_law 18 y_Engine_cut ∈ lw_g := kg (List.mem_append_right _ (List.mem_of_getElem? (i := 376) (by decide +kernel))) rfl
theorem k1133 : Cond.instanceMethod y_Engine_cut ∈ lw_g := kg (List.mem_append_right _ (List.mem_of_getElem? (i := 377) (by decide +kernel))) rfl
theorem k1134 : Cond.selects R_Engine y_Engine_cut y_Engine_cut ∈ lw_g := kg (List.mem_append_right _ (List.mem_of_getElem? (i := 378) (by decide +kernel))) rfl
theorem k1135 : Cond.code y_Model_cut b_Model_cut 2 (some .int) ∈ lw_g := kg (List.mem_append_right _ (List.mem_of_getElem? (i := 1189) (by decide +kernel))) rfl
theorem k1136 : Cond.methodLink R_law 21 y_Model_cut ∈ lw_g := kg (List.mem_append_right _ (List.mem_of_getElem? (i := 1186) (by decide +kernel))) rfl
theorem k1137 : Cond.instanceMethod y_Model_cut ∈ lw_g := kg (List.mem_append_right _ (List.mem_of_getElem? (i := 1187) (by decide +kernel))) rfl
theorem k1138 : Cond.selects R_Model y_Model_cut y_Model_cut ∈ lw_g := kg (List.mem_append_right _ (List.mem_of_getElem? (i := 1188) (by decide +kernel))) rfl
theorem k1139 : Cond.code y_Engine_put b_Engine_put 3 (some .int) ∈ lw_g := kg (List.mem_append_right _ (List.mem_of_getElem? (i := 387) (by decide +kernel))) rfl
theorem k1140 : Cond.methodLink R_law 24 y_Engine_put ∈ lw_g := kg (List.mem_append_right _ (List.mem_of_getElem? (i := 384) (by decide +kernel))) rfl
theorem k1141 : Cond.instanceMethod y_Engine_put ∈ lw_g := kg (List.mem_append_right _ (List.mem_of_getElem? (i := 385) (by decide +kernel))) rfl
theorem k1142 : Cond.selects R_Engine y_Engine_put y_Engine_put ∈ lw_g := kg (List.mem_append_right _ (List.mem_of_getElem? (i := 386) (by decide +kernel))) rfl
theorem k1143 : Cond.code y_Model_put b_Model_put 5 (some .int) ∈ lw_g := kg (List.mem_append_right _ (List.mem_of_getElem? (i := 1197) (by decide +kernel))) rfl
theorem k1144 : Cond.methodLink R_law 28 y_Model_put ∈ lw_g := kg (List.mem_append_right _ (List.mem_of_getElem? (i := 1194) (by decide +kernel))) rfl
theorem k1145 : Cond.instanceMethod y_Model_put ∈ lw_g := kg (List.mem_append_right _ (List.mem_of_getElem? (i := 1195) (by decide +kernel))) rfl
theorem k1146 : Cond.selects R_Model y_Model_put y_Model_put ∈ lw_g := kg (List.mem_append_right _ (List.mem_of_getElem? (i := 1196) (by decide +kernel))) rfl
theorem k1147 : Cond.code y_Engine_constant b_Engine_constant 1 (some .int) ∈ lw_g := kg (List.mem_append_right _ (List.mem_of_getElem? (i := 409) (by decide +kernel))) rfl
theorem k1148 : Cond.methodLink R_law 29 y_Engine_constant ∈ lw_g := kg (List.mem_append_right _ (List.mem_of_getElem? (i := 406) (by decide +kernel))) rfl
theorem k1149 : Cond.instanceMethod y_Engine_constant ∈ lw_g := kg (List.mem_append_right _ (List.mem_of_getElem? (i := 407) (by decide +kernel))) rfl
theorem k1150 : Cond.selects R_Engine y_Engine_constant y_Engine_constant ∈ lw_g := kg (List.mem_append_right _ (List.mem_of_getElem? (i := 408) (by decide +kernel))) rfl
theorem k1151 : Cond.code y_Model_constant b_Model_constant 1 (some .int) ∈ lw_g := kg (List.mem_append_right _ (List.mem_of_getElem? (i := 1202) (by decide +kernel))) rfl
theorem k1152 : Cond.methodLink R_law 33 y_Model_constant ∈ lw_g := kg (List.mem_append_right _ (List.mem_of_getElem? (i := 1199) (by decide +kernel))) rfl
theorem k1153 : Cond.instanceMethod y_Model_constant ∈ lw_g := kg (List.mem_append_right _ (List.mem_of_getElem? (i := 1200) (by decide +kernel))) rfl
theorem k1154 : Cond.selects R_Model y_Model_constant y_Model_constant ∈ lw_g := kg (List.mem_append_right _ (List.mem_of_getElem? (i := 1201) (by decide +kernel))) rfl
theorem k1155 : Cond.code y_Engine_start b_Engine_start 3 (some .boolean) ∈ lw_g := kg (List.mem_append_right _ (List.mem_of_getElem? (i := 418) (by decide +kernel))) rfl
theorem k1156 : Cond.methodLink R_law 34 y_Engine_start ∈ lw_g := kg (List.mem_append_right _ (List.mem_of_getElem? (i := 415) (by decide +kernel))) rfl
theorem k1157 : Cond.instanceMethod y_Engine_start ∈ lw_g := kg (List.mem_append_right _ (List.mem_of_getElem? (i := 416) (by decide +kernel))) rfl
theorem k1158 : Cond.selects R_Engine y_Engine_start y_Engine_start ∈ lw_g := kg (List.mem_append_right _ (List.mem_of_getElem? (i := 417) (by decide +kernel))) rfl
theorem k1159 : Cond.code y_Model_start b_Model_start 3 (some .boolean) ∈ lw_g := kg (List.mem_append_right _ (List.mem_of_getElem? (i := 1206) (by decide +kernel))) rfl
theorem k1160 : Cond.methodLink R_law 38 y_Model_start ∈ lw_g := kg (List.mem_append_right _ (List.mem_of_getElem? (i := 1203) (by decide +kernel))) rfl
theorem k1161 : Cond.instanceMethod y_Model_start ∈ lw_g := kg (List.mem_append_right _ (List.mem_of_getElem? (i := 1204) (by decide +kernel))) rfl
theorem k1162 : Cond.selects R_Model y_Model_start y_Model_start ∈ lw_g := kg (List.mem_append_right _ (List.mem_of_getElem? (i := 1205) (by decide +kernel))) rfl
theorem k1163 : Cond.code y_Engine_step b_Engine_step 2 (some .int) ∈ lw_g := kg (List.mem_append_right _ (List.mem_of_getElem? (i := 435) (by decide +kernel))) rfl
theorem k1164 : Cond.methodLink R_law 39 y_Engine_step ∈ lw_g := kg (List.mem_append_right _ (List.mem_of_getElem? (i := 432) (by decide +kernel))) rfl
theorem k1165 : Cond.instanceMethod y_Engine_step ∈ lw_g := kg (List.mem_append_right _ (List.mem_of_getElem? (i := 433) (by decide +kernel))) rfl
theorem k1166 : Cond.selects R_Engine y_Engine_step y_Engine_step ∈ lw_g := kg (List.mem_append_right _ (List.mem_of_getElem? (i := 434) (by decide +kernel))) rfl
theorem k1167 : Cond.code y_Model_step b_Model_step 4 (some .int) ∈ lw_g := kg (List.mem_append_right _ (List.mem_of_getElem? (i := 1210) (by decide +kernel))) rfl
theorem k1168 : Cond.methodLink R_law 42 y_Model_step ∈ lw_g := kg (List.mem_append_right _ (List.mem_of_getElem? (i := 1207) (by decide +kernel))) rfl
theorem k1169 : Cond.instanceMethod y_Model_step ∈ lw_g := kg (List.mem_append_right _ (List.mem_of_getElem? (i := 1208) (by decide +kernel))) rfl
theorem k1170 : Cond.selects R_Model y_Model_step y_Model_step ∈ lw_g := kg (List.mem_append_right _ (List.mem_of_getElem? (i := 1209) (by decide +kernel))) rfl
theorem k1171 : Cond.code y_Engine_look b_Engine_look 7 (some .int) ∈ lw_g := kg (List.mem_append_right _ (List.mem_of_getElem? (i := 939) (by decide +kernel))) rfl
theorem k1172 : Cond.methodLink R_law 43 y_Engine_look ∈ lw_g := kg (List.mem_append_right _ (List.mem_of_getElem? (i := 936) (by decide +kernel))) rfl
theorem k1173 : Cond.instanceMethod y_Engine_look ∈ lw_g := kg (List.mem_append_right _ (List.mem_of_getElem? (i := 937) (by decide +kernel))) rfl
theorem k1174 : Cond.selects R_Engine y_Engine_look y_Engine_look ∈ lw_g := kg (List.mem_append_right _ (List.mem_of_getElem? (i := 938) (by decide +kernel))) rfl
theorem k1175 : Cond.code y_Model_look b_Model_look 7 (some .int) ∈ lw_g := kg (List.mem_append_right _ (List.mem_of_getElem? (i := 1493) (by decide +kernel))) rfl
theorem k1176 : Cond.methodLink R_law 47 y_Model_look ∈ lw_g := kg (List.mem_append_right _ (List.mem_of_getElem? (i := 1490) (by decide +kernel))) rfl
theorem k1177 : Cond.instanceMethod y_Model_look ∈ lw_g := kg (List.mem_append_right _ (List.mem_of_getElem? (i := 1491) (by decide +kernel))) rfl
theorem k1178 : Cond.selects R_Model y_Model_look y_Model_look ∈ lw_g := kg (List.mem_append_right _ (List.mem_of_getElem? (i := 1492) (by decide +kernel))) rfl
theorem k1179 : Cond.code y_Engine_byteOf b_Engine_byteOf 7 (some .int) ∈ lw_g := kg (List.mem_append_right _ (List.mem_of_getElem? (i := 953) (by decide +kernel))) rfl
theorem k1180 : Cond.methodLink R_law 48 y_Engine_byteOf ∈ lw_g := kg (List.mem_append_right _ (List.mem_of_getElem? (i := 950) (by decide +kernel))) rfl
theorem k1181 : Cond.instanceMethod y_Engine_byteOf ∈ lw_g := kg (List.mem_append_right _ (List.mem_of_getElem? (i := 951) (by decide +kernel))) rfl
theorem k1182 : Cond.selects R_Engine y_Engine_byteOf y_Engine_byteOf ∈ lw_g := kg (List.mem_append_right _ (List.mem_of_getElem? (i := 952) (by decide +kernel))) rfl
theorem k1183 : Cond.code y_Model_byteOf b_Model_byteOf 6 (some .int) ∈ lw_g := kg (List.mem_append_right _ (List.mem_of_getElem? (i := 1501) (by decide +kernel))) rfl
theorem k1184 : Cond.methodLink R_law 51 y_Model_byteOf ∈ lw_g := kg (List.mem_append_right _ (List.mem_of_getElem? (i := 1498) (by decide +kernel))) rfl
theorem k1185 : Cond.instanceMethod y_Model_byteOf ∈ lw_g := kg (List.mem_append_right _ (List.mem_of_getElem? (i := 1499) (by decide +kernel))) rfl
theorem k1186 : Cond.selects R_Model y_Model_byteOf y_Model_byteOf ∈ lw_g := kg (List.mem_append_right _ (List.mem_of_getElem? (i := 1500) (by decide +kernel))) rfl
theorem k1187 : Cond.code y_Engine_same b_Engine_same 9 (some .boolean) ∈ lw_g := kg (List.mem_append_right _ (List.mem_of_getElem? (i := 959) (by decide +kernel))) rfl
theorem k1188 : Cond.methodLink R_law 52 y_Engine_same ∈ lw_g := kg (List.mem_append_right _ (List.mem_of_getElem? (i := 956) (by decide +kernel))) rfl
theorem k1189 : Cond.instanceMethod y_Engine_same ∈ lw_g := kg (List.mem_append_right _ (List.mem_of_getElem? (i := 957) (by decide +kernel))) rfl
theorem k1190 : Cond.selects R_Engine y_Engine_same y_Engine_same ∈ lw_g := kg (List.mem_append_right _ (List.mem_of_getElem? (i := 958) (by decide +kernel))) rfl
theorem k1191 : Cond.code y_Model_same b_Model_same 9 (some .boolean) ∈ lw_g := kg (List.mem_append_right _ (List.mem_of_getElem? (i := 1505) (by decide +kernel))) rfl
theorem k1192 : Cond.methodLink R_law 56 y_Model_same ∈ lw_g := kg (List.mem_append_right _ (List.mem_of_getElem? (i := 1502) (by decide +kernel))) rfl
theorem k1193 : Cond.instanceMethod y_Model_same ∈ lw_g := kg (List.mem_append_right _ (List.mem_of_getElem? (i := 1503) (by decide +kernel))) rfl
theorem k1194 : Cond.selects R_Model y_Model_same y_Model_same ∈ lw_g := kg (List.mem_append_right _ (List.mem_of_getElem? (i := 1504) (by decide +kernel))) rfl
theorem k1195 : Cond.code y_Engine_out b_Engine_out 2 (some .int) ∈ lw_g := kg (List.mem_append_right _ (List.mem_of_getElem? (i := 963) (by decide +kernel))) rfl
theorem k1196 : Cond.methodLink R_law 57 y_Engine_out ∈ lw_g := kg (List.mem_append_right _ (List.mem_of_getElem? (i := 960) (by decide +kernel))) rfl
theorem k1197 : Cond.instanceMethod y_Engine_out ∈ lw_g := kg (List.mem_append_right _ (List.mem_of_getElem? (i := 961) (by decide +kernel))) rfl
theorem k1198 : Cond.selects R_Engine y_Engine_out y_Engine_out ∈ lw_g := kg (List.mem_append_right _ (List.mem_of_getElem? (i := 962) (by decide +kernel))) rfl
theorem k1199 : Cond.code y_Model_out b_Model_out 2 (some .int) ∈ lw_g := kg (List.mem_append_right _ (List.mem_of_getElem? (i := 1509) (by decide +kernel))) rfl
theorem k1200 : Cond.methodLink R_law 60 y_Model_out ∈ lw_g := kg (List.mem_append_right _ (List.mem_of_getElem? (i := 1506) (by decide +kernel))) rfl
theorem k1201 : Cond.instanceMethod y_Model_out ∈ lw_g := kg (List.mem_append_right _ (List.mem_of_getElem? (i := 1507) (by decide +kernel))) rfl
theorem k1202 : Cond.selects R_Model y_Model_out y_Model_out ∈ lw_g := kg (List.mem_append_right _ (List.mem_of_getElem? (i := 1508) (by decide +kernel))) rfl
theorem k1203 : Cond.code y_Engine_limits b_Engine_limits 4 (some .boolean) ∈ lw_g := kg (List.mem_append_right _ (List.mem_of_getElem? (i := 967) (by decide +kernel))) rfl
theorem k1204 : Cond.methodLink R_law 61 y_Engine_limits ∈ lw_g := kg (List.mem_append_right _ (List.mem_of_getElem? (i := 964) (by decide +kernel))) rfl
theorem k1205 : Cond.instanceMethod y_Engine_limits ∈ lw_g := kg (List.mem_append_right _ (List.mem_of_getElem? (i := 965) (by decide +kernel))) rfl
theorem k1206 : Cond.selects R_Engine y_Engine_limits y_Engine_limits ∈ lw_g := kg (List.mem_append_right _ (List.mem_of_getElem? (i := 966) (by decide +kernel))) rfl
theorem k1207 : Cond.code y_Model_limits b_Model_limits 4 (some .boolean) ∈ lw_g := kg (List.mem_append_right _ (List.mem_of_getElem? (i := 1513) (by decide +kernel))) rfl
theorem k1208 : Cond.methodLink R_law 65 y_Model_limits ∈ lw_g := kg (List.mem_append_right _ (List.mem_of_getElem? (i := 1510) (by decide +kernel))) rfl
theorem k1209 : Cond.instanceMethod y_Model_limits ∈ lw_g := kg (List.mem_append_right _ (List.mem_of_getElem? (i := 1511) (by decide +kernel))) rfl
theorem k1210 : Cond.selects R_Model y_Model_limits y_Model_limits ∈ lw_g := kg (List.mem_append_right _ (List.mem_of_getElem? (i := 1512) (by decide +kernel))) rfl
theorem k1211 : Cond.code y_Engine_collect b_Engine_collect 2 (some .boolean) ∈ lw_g := kg (List.mem_append_right _ (List.mem_of_getElem? (i := 972) (by decide +kernel))) rfl
theorem k1212 : Cond.methodLink R_law 66 y_Engine_collect ∈ lw_g := kg (List.mem_append_right _ (List.mem_of_getElem? (i := 969) (by decide +kernel))) rfl
theorem k1213 : Cond.instanceMethod y_Engine_collect ∈ lw_g := kg (List.mem_append_right _ (List.mem_of_getElem? (i := 970) (by decide +kernel))) rfl
theorem k1214 : Cond.selects R_Engine y_Engine_collect y_Engine_collect ∈ lw_g := kg (List.mem_append_right _ (List.mem_of_getElem? (i := 971) (by decide +kernel))) rfl
theorem k1215 : Cond.code y_Model_collect b_Model_collect 2 (some .boolean) ∈ lw_g := kg (List.mem_append_right _ (List.mem_of_getElem? (i := 1517) (by decide +kernel))) rfl
theorem k1216 : Cond.methodLink R_law 70 y_Model_collect ∈ lw_g := kg (List.mem_append_right _ (List.mem_of_getElem? (i := 1514) (by decide +kernel))) rfl
theorem k1217 : Cond.instanceMethod y_Model_collect ∈ lw_g := kg (List.mem_append_right _ (List.mem_of_getElem? (i := 1515) (by decide +kernel))) rfl
theorem k1218 : Cond.selects R_Model y_Model_collect y_Model_collect ∈ lw_g := kg (List.mem_append_right _ (List.mem_of_getElem? (i := 1516) (by decide +kernel))) rfl
theorem k1219 : Cond.code y_Engine_reached b_Engine_reached 1 (some .int) ∈ lw_g := kg (List.mem_append_right _ (List.mem_of_getElem? (i := 976) (by decide +kernel))) rfl
theorem k1220 : Cond.methodLink R_law 71 y_Engine_reached ∈ lw_g := kg (List.mem_append_right _ (List.mem_of_getElem? (i := 973) (by decide +kernel))) rfl
theorem k1221 : Cond.instanceMethod y_Engine_reached ∈ lw_g := kg (List.mem_append_right _ (List.mem_of_getElem? (i := 974) (by decide +kernel))) rfl
theorem k1222 : Cond.selects R_Engine y_Engine_reached y_Engine_reached ∈ lw_g := kg (List.mem_append_right _ (List.mem_of_getElem? (i := 975) (by decide +kernel))) rfl
theorem k1223 : Cond.code y_Model_reached b_Model_reached 1 (some .int) ∈ lw_g := kg (List.mem_append_right _ (List.mem_of_getElem? (i := 1521) (by decide +kernel))) rfl
theorem k1224 : Cond.methodLink R_law 74 y_Model_reached ∈ lw_g := kg (List.mem_append_right _ (List.mem_of_getElem? (i := 1518) (by decide +kernel))) rfl
theorem k1225 : Cond.instanceMethod y_Model_reached ∈ lw_g := kg (List.mem_append_right _ (List.mem_of_getElem? (i := 1519) (by decide +kernel))) rfl
theorem k1226 : Cond.selects R_Model y_Model_reached y_Model_reached ∈ lw_g := kg (List.mem_append_right _ (List.mem_of_getElem? (i := 1520) (by decide +kernel))) rfl
theorem k1227 : Cond.code y_Engine_save b_Engine_save 1 (some .int) ∈ lw_g := kg (List.mem_append_right _ (List.mem_of_getElem? (i := 981) (by decide +kernel))) rfl
theorem k1228 : Cond.methodLink R_law 75 y_Engine_save ∈ lw_g := kg (List.mem_append_right _ (List.mem_of_getElem? (i := 978) (by decide +kernel))) rfl
theorem k1229 : Cond.instanceMethod y_Engine_save ∈ lw_g := kg (List.mem_append_right _ (List.mem_of_getElem? (i := 979) (by decide +kernel))) rfl
theorem k1230 : Cond.selects R_Engine y_Engine_save y_Engine_save ∈ lw_g := kg (List.mem_append_right _ (List.mem_of_getElem? (i := 980) (by decide +kernel))) rfl
theorem k1231 : Cond.code y_Model_save b_Model_save 7 (some .int) ∈ lw_g := kg (List.mem_append_right _ (List.mem_of_getElem? (i := 1529) (by decide +kernel))) rfl
theorem k1232 : Cond.methodLink R_law 78 y_Model_save ∈ lw_g := kg (List.mem_append_right _ (List.mem_of_getElem? (i := 1526) (by decide +kernel))) rfl
theorem k1233 : Cond.instanceMethod y_Model_save ∈ lw_g := kg (List.mem_append_right _ (List.mem_of_getElem? (i := 1527) (by decide +kernel))) rfl
theorem k1234 : Cond.selects R_Model y_Model_save y_Model_save ∈ lw_g := kg (List.mem_append_right _ (List.mem_of_getElem? (i := 1528) (by decide +kernel))) rfl
theorem k1235 : Cond.code y_Engine_restore b_Engine_restore 1 (some .int) ∈ lw_g := kg (List.mem_append_right _ (List.mem_of_getElem? (i := 994) (by decide +kernel))) rfl
theorem k1236 : Cond.methodLink R_law 79 y_Engine_restore ∈ lw_g := kg (List.mem_append_right _ (List.mem_of_getElem? (i := 991) (by decide +kernel))) rfl
theorem k1237 : Cond.instanceMethod y_Engine_restore ∈ lw_g := kg (List.mem_append_right _ (List.mem_of_getElem? (i := 992) (by decide +kernel))) rfl
theorem k1238 : Cond.selects R_Engine y_Engine_restore y_Engine_restore ∈ lw_g := kg (List.mem_append_right _ (List.mem_of_getElem? (i := 993) (by decide +kernel))) rfl
theorem k1239 : Cond.code y_Model_restore b_Model_restore 2 (some .int) ∈ lw_g := kg (List.mem_append_right _ (List.mem_of_getElem? (i := 1537) (by decide +kernel))) rfl
theorem k1240 : Cond.methodLink R_law 82 y_Model_restore ∈ lw_g := kg (List.mem_append_right _ (List.mem_of_getElem? (i := 1534) (by decide +kernel))) rfl
theorem k1241 : Cond.instanceMethod y_Model_restore ∈ lw_g := kg (List.mem_append_right _ (List.mem_of_getElem? (i := 1535) (by decide +kernel))) rfl
theorem k1242 : Cond.selects R_Model y_Model_restore y_Model_restore ∈ lw_g := kg (List.mem_append_right _ (List.mem_of_getElem? (i := 1536) (by decide +kernel))) rfl
theorem k1243 : Cond.code y_Engine_count b_Engine_count 2 (some .int) ∈ lw_g := kg (List.mem_append_right _ (List.mem_of_getElem? (i := 1002) (by decide +kernel))) rfl
theorem k1244 : Cond.methodLink R_law 83 y_Engine_count ∈ lw_g := kg (List.mem_append_right _ (List.mem_of_getElem? (i := 999) (by decide +kernel))) rfl
theorem k1245 : Cond.instanceMethod y_Engine_count ∈ lw_g := kg (List.mem_append_right _ (List.mem_of_getElem? (i := 1000) (by decide +kernel))) rfl
theorem k1246 : Cond.selects R_Engine y_Engine_count y_Engine_count ∈ lw_g := kg (List.mem_append_right _ (List.mem_of_getElem? (i := 1001) (by decide +kernel))) rfl
theorem k1247 : Cond.code y_Model_count b_Model_count 2 (some .int) ∈ lw_g := kg (List.mem_append_right _ (List.mem_of_getElem? (i := 1541) (by decide +kernel))) rfl
theorem k1248 : Cond.methodLink R_law 86 y_Model_count ∈ lw_g := kg (List.mem_append_right _ (List.mem_of_getElem? (i := 1538) (by decide +kernel))) rfl
theorem k1249 : Cond.instanceMethod y_Model_count ∈ lw_g := kg (List.mem_append_right _ (List.mem_of_getElem? (i := 1539) (by decide +kernel))) rfl
theorem k1250 : Cond.selects R_Model y_Model_count y_Model_count ∈ lw_g := kg (List.mem_append_right _ (List.mem_of_getElem? (i := 1540) (by decide +kernel))) rfl
