
/-! THE CLAIM OUT OF ONE WALK OF THE LAW'S BODY. Your part is whole_start (and what it stands on); all else here is the same for every law, but numbers. -/
def R_law : String := "VerbSchoolLaw"
def lw_P (b : Addr) (xs : List Int32) (args : Array Value) (s : State) : Prop := args = #[.ref b] ∧ s.IntsAt b xs ∧ xs.length ≤ 3072 ∧ (Jvm.Cond.and given_1 narrow_1).before args s = true
def lw_Q (_ : Array Value) (s : State) (o : Outcome) (t : State) : Prop := o = .returned (some (.int 1)) ∧ Framed s o t [] 601024 7293034
def lw_Z (below : List Frame) (a : Array Value) (s : State) : State → Prop := fun t => ∃ o, t.status = .running ∧ Ended t below o ∧ lw_Q a s o t
/-- the law's own end, with 1 on the stack, nothing written that was there before, its room as the claim has it -/
theorem lw_ret {p : Program} {l : Launch} {e : Env} {s : State} {m : MethodId} {below : List Frame} {meth : Method} {c : Code} {b : Nat} (hx : p.tables.exec = Jvm.exec) (hb : c.code = code) (hr : meth.sig.returnType = ret) (hlocks : meth.locks = false) {pc : Nat} {H : Heap} {ls : Array Slot} (hdg : decode code pc = .ok (.ireturn, 1)) : W p l e room_1 s m #[Value.ref b] below meth c H [] 601024 7293034 (lw_Z below #[Value.ref b] s) (F0 m pc ls [.int 1]) := by
  intro T hT X
  obtain ⟨fs, hret, hrun, hended, hW, hframe⟩ := X.leave (v := some (.int 1)) (hlocks := hlocks) (fun h => by rw [hr] at h; cases h)
  have hmeth' : T.vm.method? m = some meth := X.method'
  refine ⟨T.setFrames fs, ?_, .returned (some (.int 1)), hrun, hended, rfl, ⟨_, rfl⟩, hW, hframe⟩
  jvm_step X.here [X.here.top, hx, hb, hdg, hmeth', hr, ret, narrow_b1]
  (try refine ⟨rfl, ?_⟩); (try refine ⟨rfl, ?_⟩)
  first | (intro acts; rw [hret _ acts rfl rfl rfl]) | rw [hret _ _ rfl rfl rfl]
  exact Steps.refl _
/-- what holds at the law's entry: the machine, the code, the tables' words (any of lw_tbl by 'hts w (by decide +kernel)'), the script of L ints xs at the cell b, what the Statement gives of the start (any of its parts by flat_of_before) -/
def lw_At (p : Program) (s : State) (m : MethodId) (meth : Method) (c : Code) (b L : Nat) (xs : Nat → Int32) : Prop :=
  p.tables.exec = Jvm.exec ∧ c.code = code ∧ meth.sig.returnType = ret ∧ c.maxLocals = 4 ∧ s.vm.findClass R_law = some m.cls ∧ (∀ w ∈ lw_tbl, w.before #[Value.ref b] s = true) ∧ va_X b L xs s s.heap ∧ b < s.heap.size ∧ meth.locks = false ∧ (Jvm.Cond.and given_1 narrow_1).before #[Value.ref b] s = true
set_option maxHeartbeats 16000000 in
set_option maxRecDepth 100000 in
theorem hk_loop {p : Program} {e : Env} {s : State} {m : MethodId} {below : List Frame} {meth : Method} {c : Code} (l : Launch) (D : va_G) (cs : Nat → ClassId) (B : Nat) (G : hq_G) {b L : Nat} {xs : Nat → Int32} (hx : p.tables.exec = Jvm.exec) (hb : c.code = code) (hr : meth.sig.returnType = ret) (hml : c.maxLocals = 4) (hown : s.vm.findClass RL = some m.cls) (hts : ∀ w ∈ TBG, w.before #[Value.ref b] s = true) (hX : va_X b L xs s s.heap) (hbl : b < s.heap.size) (hlocks : meth.locks = false) (hB : B = s.heap.size) (hbA : ¬ hp_F B b) (hL : L ≤ 3072) (a n mo q N : Nat) (hT : hk_Ty G a n mo q) :
    ∀ (k9 : Nat) (V9 : hp_V) (H9 : Heap) (locs9 : List Loc) (ls : Array Slot) (i : Int32), (10000 - i.toInt).toNat = k9 → hp_Z D cs B s V9 H9 N locs9 → hk_Inv cs G a n mo q V9 → 0 ≤ i.toInt → i.toInt ≤ 3078 → lv_has ls 4 [(3, .int i), (2, .ref mo), (1, .ref a), (0, .ref b)] → W p l e room_1 s m #[Value.ref b] below meth c H9 locs9 891 28710 (lw_Z below #[Value.ref b] s) (F0 m 18 ls []) := by
  intro k9
  induction k9 using Nat.strongRecOn with
  | _ k9 ih =>
    intro V9 H9 locs9 ls i hk9 hZ hinv hi0 hi1 hl
    obtain ⟨ty0, ty1, ty2, ty3, ty4, ty5, ty6, ty7, ty8, ty9, ty10, ty11, ty12, ty13, ty14, ty15, ty16, ty17, ty18, ty19, ty20, hR⟩ := hT
    obtain ⟨hI, ⟨c_fs, c_to, c_sp, ho_a, htold, hfs, hJ⟩, ⟨q_fk, q_fp, q_nx, q_tk, q_st, q_tx, q_ou, ho_p⟩, ⟨e_fd, e_sz, e_bk, e_an, e_mk, ho_e, hef, hes⟩, ⟨p_z, m_tp, m_sz, m_fr, m_bh, m_hd, m_ft, m_fa, m_le, m_fo, m_as, m_fd, m_bc, m_bg, m_bs, m_be, m_b0, m_b1, m_cm, m_hc, ho_n, ho_m, hi0, hi1, hi2, hi3, hi4, hi5, hi6, hi7, hzt⟩, hVQ, hst⟩ := hinv
    have hP : hq_P cs G (fun _ => true) V9 V9 := hq_P.rf hI
    have hb_c_fs := hq_rng c_fs
    have hb_p_z := hq_rng p_z
    have hb_e_fd := hq_rng e_fd
    have hb_e_sz := hq_rng e_sz
    have hb_i := hq_rng i
    have hb_m_tp := hq_rng m_tp
    have hb_m_sz := hq_rng m_sz
    have hb_m_fr := hq_rng m_fr
    have hb_m_bh := hq_rng m_bh
    have hb_m_hd := hq_rng m_hd
    have hb_m_ft := hq_rng m_ft
    have hb_m_fa := hq_rng m_fa
    have hb_m_le := hq_rng m_le
    have hb_m_fo := hq_rng m_fo
    have hb_m_as := hq_rng m_as
    have hb_m_fd := hq_rng m_fd
    have hb_m_bc := hq_rng m_bc
    have hb_m_bg := hq_rng m_bg
    have hb_m_bs := hq_rng m_bs
    have hb_m_be := hq_rng m_be
    have hb_m_b0 := hq_rng m_b0
    have hb_m_b1 := hq_rng m_b1
    have hb_m_cm := hq_rng m_cm
    have hb_m_hc := hq_rng m_hc
    rcases htold with ⟨rfl, rfl⟩ | ⟨rfl, rfl⟩
    · refine lv_iload_n hx hb dL_law_18 rfl (lv_at hl 0 rfl) ?_
      refine lv_aload_n hx hb dL_law_19 rfl (lv_at hl 3 rfl) ?_
      refine va_slen hx hb hX hbl hbA hZ.2.1 dL_law_20 ?_
      refine lv_topi (fun y1 ey2 => ?_)
      have b3 : (y1).toInt = (L : Nat) := by rw [ey2]; exact hq_nI (by omega)
      refine lv_bipush (v := 6) hx hb dL_law_21 (by decide) ?_
      refine lv_isub hx hb dL_law_23 ?_
      refine lv_topi (fun y4 ey5 => ?_)
      obtain ⟨k6, hk7, b8, b9⟩ := hq_sub (y1) (6)
      rw [← ey5] at hk7 b8 b9
      have hk7 : (y4).toInt = (y1).toInt - (6 : Int) + k6 * 4294967296 := hk7
      obtain rfl : k6 = 0 := by omega
      refine lv_icmp_gt (tgt := 767) hx hb dL_law_24 (by decide) (fun c10 => ?_) (fun c10 => ?_)
      · have c10 : (y4).toInt < (i).toInt := hq_lti.mp c10
        refine lv_iconst (v := 1) hx hb dL_law_767 (by decide) ?_
        refine va_forget (fun q hq => by rw [← hB]; exact hZ.2.1.2.2 q hq) ?_
        refine W.widen (k := 601024) (n := 7293034) (Nat.le_of_ble_eq_true rfl) (Nat.le_of_ble_eq_true rfl) ?_
        exact lw_ret hx hb hr hlocks dL_law_768
      · have c10 : ¬ (y4).toInt < (i).toInt := fun h9 => c10 (hq_lti.mpr h9)
        refine lv_aload_n hx hb dL_law_27 rfl (lv_at hl 3 rfl) ?_
        refine lv_iload_n hx hb dL_law_28 rfl (lv_at hl 0 rfl) ?_
        refine va_sld hx hb hX hbl hbA hZ.2.1 (hq_in (by omega) (by omega)) dL_law_29 ?_
        refine lv_topi (fun y11 ey12 => ?_)
        have b13 := hq_rng y11
        refine lv_bipush (v := 31) hx hb dL_law_30 (by decide) ?_
        refine lv_iand hx hb dL_law_32 ?_
        refine lv_topi (fun y14 ey15 => ?_)
        have b16 := hq_rng y14
        rcases Classical.em (y14 = 0) with h17 | h17
        · refine lv_tableIn (off := 91) (tgt := 124) hx hb dL_law_33 (by rw [h17]; decide) (by rw [h17]; decide) (by rw [h17]; decide) (by decide) ?_
          have b18 : (y14).toInt = 0 := by rw [h17]; decide
          refine lv_aload_n hx hb dL_law_124 rfl (lv_at hl 2 rfl) ?_
          refine lv_aload_n hx hb dL_law_125 rfl (lv_at hl 3 rfl) ?_
          refine lv_iload_n hx hb dL_law_126 rfl (lv_at hl 0 rfl) ?_
          refine lv_iconst (v := 1) hx hb dL_law_127 (by decide) ?_
          refine lv_iadd hx hb dL_law_128 ?_
          refine lv_topi (fun y19 ey20 => ?_)
          obtain ⟨k21, hk22, b23, b24⟩ := hq_add (i) (1)
          rw [← ey20] at hk22 b23 b24
          have hk22 : (y19).toInt = (i).toInt + (1 : Int) + k21 * 4294967296 := hk22
          obtain rfl : k21 = 0 := by omega
          refine va_sld hx hb hX hbl hbA hZ.2.1 (hq_in (by omega) (by omega)) dL_law_129 ?_
          refine lv_topi (fun y25 ey26 => ?_)
          have b27 := hq_rng y25
          refine lv_aload_n hx hb dL_law_130 rfl (lv_at hl 3 rfl) ?_
          refine lv_iload_n hx hb dL_law_131 rfl (lv_at hl 0 rfl) ?_
          refine lv_iconst (v := 2) hx hb dL_law_132 (by decide) ?_
          refine lv_iadd hx hb dL_law_133 ?_
          refine lv_topi (fun y28 ey29 => ?_)
          obtain ⟨k30, hk31, b32, b33⟩ := hq_add (i) (2)
          rw [← ey29] at hk31 b32 b33
          have hk31 : (y28).toInt = (i).toInt + (2 : Int) + k30 * 4294967296 := hk31
          obtain rfl : k30 = 0 := by omega
          refine va_sld hx hb hX hbl hbA hZ.2.1 (hq_in (by omega) (by omega)) dL_law_134 ?_
          refine lv_topi (fun y34 ey35 => ?_)
          have b36 := hq_rng y34
          refine lv_aload_n hx hb dL_law_135 rfl (lv_at hl 3 rfl) ?_
          refine lv_iload_n hx hb dL_law_136 rfl (lv_at hl 0 rfl) ?_
          refine lv_iconst (v := 3) hx hb dL_law_137 (by decide) ?_
          refine lv_iadd hx hb dL_law_138 ?_
          refine lv_topi (fun y37 ey38 => ?_)
          obtain ⟨k39, hk40, b41, b42⟩ := hq_add (i) (3)
          rw [← ey38] at hk40 b41 b42
          have hk40 : (y37).toInt = (i).toInt + (3 : Int) + k39 * 4294967296 := hk40
          obtain rfl : k39 = 0 := by omega
          refine va_sld hx hb hX hbl hbA hZ.2.1 (hq_in (by omega) (by omega)) dL_law_139 ?_
          refine lv_topi (fun y43 ey44 => ?_)
          have b45 := hq_rng y43
          refine lv_aload_n hx hb dL_law_140 rfl (lv_at hl 3 rfl) ?_
          refine lv_iload_n hx hb dL_law_141 rfl (lv_at hl 0 rfl) ?_
          refine lv_iconst (v := 4) hx hb dL_law_142 (by decide) ?_
          refine lv_iadd hx hb dL_law_143 ?_
          refine lv_topi (fun y46 ey47 => ?_)
          obtain ⟨k48, hk49, b50, b51⟩ := hq_add (i) (4)
          rw [← ey47] at hk49 b50 b51
          have hk49 : (y46).toInt = (i).toInt + (4 : Int) + k48 * 4294967296 := hk49
          obtain rfl : k48 = 0 := by omega
          refine va_sld hx hb hX hbl hbA hZ.2.1 (hq_in (by omega) (by omega)) dL_law_144 ?_
          refine lv_topi (fun y52 ey53 => ?_)
          have b54 := hq_rng y52
          refine lv_aload_n hx hb dL_law_145 rfl (lv_at hl 3 rfl) ?_
          refine lv_iload_n hx hb dL_law_146 rfl (lv_at hl 0 rfl) ?_
          refine lv_iconst (v := 5) hx hb dL_law_147 (by decide) ?_
          refine lv_iadd hx hb dL_law_148 ?_
          refine lv_topi (fun y55 ey56 => ?_)
          obtain ⟨k57, hk58, b59, b60⟩ := hq_add (i) (5)
          rw [← ey56] at hk58 b59 b60
          have hk58 : (y55).toInt = (i).toInt + (5 : Int) + k57 * 4294967296 := hk58
          obtain rfl : k57 = 0 := by omega
          refine va_sld hx hb hX hbl hbA hZ.2.1 (hq_in (by omega) (by omega)) dL_law_149 ?_
          refine lv_topi (fun y61 ey62 => ?_)
          have b63 := hq_rng y61
          refine hp_calli (hp_runV (As := [.int (y25), .int (y34), .int (y43), .int (y52), .int (y61)]) (rest := []) hx hb hml hown hts (t_X11_feed_0 l D cs B G  V9 n hP.1  (a) ty0 (y25) (y34) (y43) (y52) (y61) ho_a ty1 ty3 ty5 ty6 ty7 ty16 ty17 ty18 ty19 (by omega) ho_n ty2 (by omega) ) hZ ho_a cv_L_13 rfl rfl ⟨Nat.le_of_ble_eq_true rfl, Nat.le_of_ble_eq_true rfl⟩ rfl hl.1 rfl (Nat.le_of_ble_eq_true rfl) dL_law_150 ⟨(Nat.le_of_ble_eq_true rfl), (Nat.le_of_ble_eq_true rfl)⟩) hZ (fun r67 V64 n65 _ _ hw66 hZ => ?_)
          obtain ⟨rfl, hq68, ho70, ⟨z71, ho72, hi73, hi74⟩, hr69⟩ := hw66
          have hP := hP.trans hq68 (by intro g h; simp_all)
          have b75 := hq_rng z71
          have b76 := hq_rng r67
          refine lv_aload_n hx hb dL_law_153 rfl (lv_at hl 1 rfl) ?_
          refine lv_aload_n hx hb dL_law_154 rfl (lv_at hl 3 rfl) ?_
          refine lv_iload_n hx hb dL_law_155 rfl (lv_at hl 0 rfl) ?_
          refine lv_iconst (v := 1) hx hb dL_law_156 (by decide) ?_
          refine lv_iadd hx hb dL_law_157 ?_
          refine lv_topi (fun y77 ey78 => ?_)
          obtain ⟨k79, hk80, b81, b82⟩ := hq_add (i) (1)
          rw [← ey78] at hk80 b81 b82
          have hk80 : (y77).toInt = (i).toInt + (1 : Int) + k79 * 4294967296 := hk80
          obtain rfl : k79 = 0 := by omega
          refine va_sld hx hb hX hbl hbA hZ.2.1 (hq_in (by omega) (by omega)) dL_law_158 ?_
          refine lv_topi (fun y83 ey84 => ?_)
          have b85 := hq_rng y83
          refine lv_aload_n hx hb dL_law_159 rfl (lv_at hl 3 rfl) ?_
          refine lv_iload_n hx hb dL_law_160 rfl (lv_at hl 0 rfl) ?_
          refine lv_iconst (v := 2) hx hb dL_law_161 (by decide) ?_
          refine lv_iadd hx hb dL_law_162 ?_
          refine lv_topi (fun y86 ey87 => ?_)
          obtain ⟨k88, hk89, b90, b91⟩ := hq_add (i) (2)
          rw [← ey87] at hk89 b90 b91
          have hk89 : (y86).toInt = (i).toInt + (2 : Int) + k88 * 4294967296 := hk89
          obtain rfl : k88 = 0 := by omega
          refine va_sld hx hb hX hbl hbA hZ.2.1 (hq_in (by omega) (by omega)) dL_law_163 ?_
          refine lv_topi (fun y92 ey93 => ?_)
          have b94 := hq_rng y92
          refine lv_aload_n hx hb dL_law_164 rfl (lv_at hl 3 rfl) ?_
          refine lv_iload_n hx hb dL_law_165 rfl (lv_at hl 0 rfl) ?_
          refine lv_iconst (v := 3) hx hb dL_law_166 (by decide) ?_
          refine lv_iadd hx hb dL_law_167 ?_
          refine lv_topi (fun y95 ey96 => ?_)
          obtain ⟨k97, hk98, b99, b100⟩ := hq_add (i) (3)
          rw [← ey96] at hk98 b99 b100
          have hk98 : (y95).toInt = (i).toInt + (3 : Int) + k97 * 4294967296 := hk98
          obtain rfl : k97 = 0 := by omega
          refine va_sld hx hb hX hbl hbA hZ.2.1 (hq_in (by omega) (by omega)) dL_law_168 ?_
          refine lv_topi (fun y101 ey102 => ?_)
          have b103 := hq_rng y101
          refine lv_aload_n hx hb dL_law_169 rfl (lv_at hl 3 rfl) ?_
          refine lv_iload_n hx hb dL_law_170 rfl (lv_at hl 0 rfl) ?_
          refine lv_iconst (v := 4) hx hb dL_law_171 (by decide) ?_
          refine lv_iadd hx hb dL_law_172 ?_
          refine lv_topi (fun y104 ey105 => ?_)
          obtain ⟨k106, hk107, b108, b109⟩ := hq_add (i) (4)
          rw [← ey105] at hk107 b108 b109
          have hk107 : (y104).toInt = (i).toInt + (4 : Int) + k106 * 4294967296 := hk107
          obtain rfl : k106 = 0 := by omega
          refine va_sld hx hb hX hbl hbA hZ.2.1 (hq_in (by omega) (by omega)) dL_law_173 ?_
          refine lv_topi (fun y110 ey111 => ?_)
          have b112 := hq_rng y110
          refine lv_aload_n hx hb dL_law_174 rfl (lv_at hl 3 rfl) ?_
          refine lv_iload_n hx hb dL_law_175 rfl (lv_at hl 0 rfl) ?_
          refine lv_iconst (v := 5) hx hb dL_law_176 (by decide) ?_
          refine lv_iadd hx hb dL_law_177 ?_
          refine lv_topi (fun y113 ey114 => ?_)
          obtain ⟨k115, hk116, b117, b118⟩ := hq_add (i) (5)
          rw [← ey114] at hk116 b117 b118
          have hk116 : (y113).toInt = (i).toInt + (5 : Int) + k115 * 4294967296 := hk116
          obtain rfl : k115 = 0 := by omega
          refine va_sld hx hb hX hbl hbA hZ.2.1 (hq_in (by omega) (by omega)) dL_law_178 ?_
          refine lv_topi (fun y119 ey120 => ?_)
          have b121 := hq_rng y119
          have fx128 : V64 (mo) = some (.inr (13, hm_o q (m_tp) (m_sz) (m_fr) (m_bh) (m_hd) (m_ft) (m_fa) (m_le) (m_fo) (m_as) (m_fd) (m_bc) (m_bg) (m_bs) (m_be) (m_b0) (m_b1) (m_cm) (m_hc))) := (hq68.2 (mo) _ ty20 rfl).trans (ho_m)
          refine hp_calli (hp_runV (As := [.int (y83), .int (y92), .int (y101), .int (y110), .int (y119)]) (rest := [.int (r67)]) hx hb hml hown hts (t_X13_feed l D cs B G  V64 n hP.1 q hR (mo) ty20 (y83) (y92) (y101) (y110) (y119) fx128  (by omega) (by omega) (by omega) (by omega) (by omega) (by omega) (by omega) (by omega) ) hZ fx128 cv_L_17 rfl rfl ⟨Nat.le_of_ble_eq_true rfl, Nat.le_of_ble_eq_true rfl⟩ rfl hl.1 rfl (Nat.le_of_ble_eq_true rfl) dL_law_179 ⟨(Nat.le_of_ble_eq_true rfl), (Nat.le_of_ble_eq_true rfl)⟩) hZ (fun r125 V122 n123 _ _ hw124 hZ => ?_)
          obtain ⟨rfl, hq126, ⟨z129, ho130, hi131, hi132⟩, hr127⟩ := hw124
          have hP := hP.trans hq126 (by intro g h; simp_all)
          have b133 := hq_rng z129
          have b134 := hq_rng r125
          refine lv_icmp_eq (tgt := 761) hx hb dL_law_182 (by decide) (fun c135 => ?_) (fun c135 => absurd (Int32.toInt_inj.mp (by omega)) c135)
          obtain ⟨y136, ey137⟩ : ∃ y : Int32, y = i + (6) := ⟨_, rfl⟩
          obtain ⟨k138, hk139, b140, b141⟩ := hq_add (i) (6)
          rw [← ey137] at hk139 b140 b141
          have hk139 : (y136).toInt = (i).toInt + (6) + k138 * 4294967296 := hk139
          refine lv_iinc (v := y136) (lv' := [(3, .int (y136)), (2, .ref (mo)), (1, .ref (a)), (0, .ref (b))]) hx hb dL_law_761 hl (k := 0) rfl (by rw [ey137]; rfl) (by decide) rfl (fun ls hl => ?_)
          refine lv_goto (tgt := 18) hx hb dL_law_764 (by decide) ?_
          have fx142 : V122 (a) = some (.inr (11, [.ref (n), .ref (n + 2), .ref (n + 5), .ref (n + 46), .ref (n + 50), .ref (n + 62), .ref (n + 87), .int (c_fs), .ref (n + 88), .ref (n + 465)])) := (hq126.2 (a) _ ty0 rfl).trans (ho70)
          have fx143 : V122 (n + 2) = some (.inr (7, [.int (q_fk), .int (q_fp), q_tx, q_ou, .int (q_nx), .int (q_tk), .int (q_st), .ref (n + 3)])) := (hq126.2 (n + 2) _ ty3 rfl).trans ((hq68.2 (n + 2) _ ty3 rfl).trans (ho_p))
          have fx144 : V122 (n + 50) = some (.inr (1, [.ref (n + 51), .ref (n + 52), .int (e_fd), .ref (n + 53), .ref (n + 55), .ref (n + 57), e_bk, e_an, e_mk, .int (e_sz), .ref (n + 59), .ref (n + 60), .ref (n + 61)])) := (hq126.2 (n + 50) _ ty7 rfl).trans ((hq68.2 (n + 50) _ ty7 rfl).trans (ho_e))
          have fx145 : V122 (n) = some (.inr (9, [.ref (n + 1), .int (z71)])) := (hq126.2 (n) _ ty1 rfl).trans (ho72)
          have hinv9 : hk_Inv cs G a n mo q V122 := ⟨hP.1, ⟨_, _, _, fx142, Or.inl ⟨rfl, rfl⟩, by omega, hJ.keep hP.1 ty18 (fun x t hx hg => (hq_lgp hq126 hx hg (fun _ => rfl)).trans (hq_lgp hq68 hx hg (fun _ => rfl)))⟩, ⟨_, _, _, _, _, _, _, fx143⟩, ⟨_, _, _, _, _, fx144, by omega, by omega⟩, ⟨_, _, _, _, _, _, _, _, _, _, _, _, _, _, _, _, _, _, _, _, fx145, ho130, by omega, by omega, by omega, by omega, by omega, by omega, by omega, by omega, by omega⟩, (hVQ.keep hR (fun x t hx hg => (hq126.2 x t hx (by simp [hg])).trans (hq68.2 x t hx (by simp [hg])))), (by obtain ⟨fs9, h9⟩ := hst; exact ⟨fs9, ((hq126.2 _ _ (hr_19 hR) rfl).trans (hq68.2 _ _ (hr_19 hR) rfl)).trans h9⟩)⟩
          exact ih _ (by omega) _ _ _ ls (y136) rfl hZ hinv9 (by omega) (by omega) (lv_sub hl [0, 1, 2, 3] rfl)
        ·
          rcases Classical.em (y14 = 1) with h146 | h146
          · refine lv_tableIn (off := 154) (tgt := 187) hx hb dL_law_33 (by rw [h146]; decide) (by rw [h146]; decide) (by rw [h146]; decide) (by decide) ?_
            have b147 : (y14).toInt = 1 := by rw [h146]; decide
            refine lv_aload_n hx hb dL_law_187 rfl (lv_at hl 2 rfl) ?_
            refine lv_aload_n hx hb dL_law_188 rfl (lv_at hl 3 rfl) ?_
            refine lv_iload_n hx hb dL_law_189 rfl (lv_at hl 0 rfl) ?_
            refine lv_iconst (v := 1) hx hb dL_law_190 (by decide) ?_
            refine lv_iadd hx hb dL_law_191 ?_
            refine lv_topi (fun y148 ey149 => ?_)
            obtain ⟨k150, hk151, b152, b153⟩ := hq_add (i) (1)
            rw [← ey149] at hk151 b152 b153
            have hk151 : (y148).toInt = (i).toInt + (1 : Int) + k150 * 4294967296 := hk151
            obtain rfl : k150 = 0 := by omega
            refine va_sld hx hb hX hbl hbA hZ.2.1 (hq_in (by omega) (by omega)) dL_law_192 ?_
            refine lv_topi (fun y154 ey155 => ?_)
            have b156 := hq_rng y154
            refine hp_calli (hp_runV (As := [.int (y154)]) (rest := []) hx hb hml hown hts (t_X11_end_0 l D cs B G  V9 n hP.1  (a) ty0 (y154) ho_a ty1 ty3 ty5 ty6 ty7 ty16 ty17 ty18 ty19 (by omega) ho_n ty2 (by omega) ) hZ ho_a cv_L_18 rfl rfl ⟨Nat.le_of_ble_eq_true rfl, Nat.le_of_ble_eq_true rfl⟩ rfl hl.1 rfl (Nat.le_of_ble_eq_true rfl) dL_law_193 ⟨(Nat.le_of_ble_eq_true rfl), (Nat.le_of_ble_eq_true rfl)⟩) hZ (fun r160 V157 n158 _ _ hw159 hZ => ?_)
            obtain ⟨rfl, hq161, ho163, ⟨z164, ho165, hi166, hi167⟩, hr162⟩ := hw159
            have hP := hP.trans hq161 (by intro g h; simp_all)
            have b168 := hq_rng z164
            have b169 := hq_rng r160
            refine lv_pop hx hb dL_law_196 rfl ?_
            refine lv_aload_n hx hb dL_law_197 rfl (lv_at hl 1 rfl) ?_
            refine lv_aload_n hx hb dL_law_198 rfl (lv_at hl 3 rfl) ?_
            refine lv_iload_n hx hb dL_law_199 rfl (lv_at hl 0 rfl) ?_
            refine lv_iconst (v := 1) hx hb dL_law_200 (by decide) ?_
            refine lv_iadd hx hb dL_law_201 ?_
            refine lv_topi (fun y170 ey171 => ?_)
            obtain ⟨k172, hk173, b174, b175⟩ := hq_add (i) (1)
            rw [← ey171] at hk173 b174 b175
            have hk173 : (y170).toInt = (i).toInt + (1 : Int) + k172 * 4294967296 := hk173
            obtain rfl : k172 = 0 := by omega
            refine va_sld hx hb hX hbl hbA hZ.2.1 (hq_in (by omega) (by omega)) dL_law_202 ?_
            refine lv_topi (fun y176 ey177 => ?_)
            have b178 := hq_rng y176
            have fx185 : V157 (mo) = some (.inr (13, hm_o q (m_tp) (m_sz) (m_fr) (m_bh) (m_hd) (m_ft) (m_fa) (m_le) (m_fo) (m_as) (m_fd) (m_bc) (m_bg) (m_bs) (m_be) (m_b0) (m_b1) (m_cm) (m_hc))) := (hq161.2 (mo) _ ty20 rfl).trans (ho_m)
            refine hp_calli (hp_runV (As := [.int (y176)]) (rest := []) hx hb hml hown hts (t_X13_end l D cs B G  V157 n hP.1 q hR (mo) ty20 (y176) fx185  (by omega) (by omega) (by omega) (by omega) (by omega) (by omega) (by omega) (by omega) ) hZ fx185 cv_L_22 rfl rfl ⟨Nat.le_of_ble_eq_true rfl, Nat.le_of_ble_eq_true rfl⟩ rfl hl.1 rfl (Nat.le_of_ble_eq_true rfl) dL_law_203 ⟨(Nat.le_of_ble_eq_true rfl), (Nat.le_of_ble_eq_true rfl)⟩) hZ (fun r182 V179 n180 _ _ hw181 hZ => ?_)
            obtain ⟨rfl, hq183, ⟨z186, ho187, hi188, hi189⟩, hr184⟩ := hw181
            have hP := hP.trans hq183 (by intro g h; simp_all)
            have b190 := hq_rng z186
            have b191 := hq_rng r182
            refine lv_pop hx hb dL_law_206 rfl ?_
            refine lv_goto (tgt := 761) hx hb dL_law_207 (by decide) ?_
            obtain ⟨y192, ey193⟩ : ∃ y : Int32, y = i + (6) := ⟨_, rfl⟩
            obtain ⟨k194, hk195, b196, b197⟩ := hq_add (i) (6)
            rw [← ey193] at hk195 b196 b197
            have hk195 : (y192).toInt = (i).toInt + (6) + k194 * 4294967296 := hk195
            refine lv_iinc (v := y192) (lv' := [(3, .int (y192)), (2, .ref (mo)), (1, .ref (a)), (0, .ref (b))]) hx hb dL_law_761 hl (k := 0) rfl (by rw [ey193]; rfl) (by decide) rfl (fun ls hl => ?_)
            refine lv_goto (tgt := 18) hx hb dL_law_764 (by decide) ?_
            have fx198 : V179 (a) = some (.inr (11, [.ref (n), .ref (n + 2), .ref (n + 5), .ref (n + 46), .ref (n + 50), .ref (n + 62), .ref (n + 87), .int (c_fs), .ref (n + 88), .ref (n + 465)])) := (hq183.2 (a) _ ty0 rfl).trans (ho163)
            have fx199 : V179 (n + 2) = some (.inr (7, [.int (q_fk), .int (q_fp), q_tx, q_ou, .int (q_nx), .int (q_tk), .int (q_st), .ref (n + 3)])) := (hq183.2 (n + 2) _ ty3 rfl).trans ((hq161.2 (n + 2) _ ty3 rfl).trans (ho_p))
            have fx200 : V179 (n + 50) = some (.inr (1, [.ref (n + 51), .ref (n + 52), .int (e_fd), .ref (n + 53), .ref (n + 55), .ref (n + 57), e_bk, e_an, e_mk, .int (e_sz), .ref (n + 59), .ref (n + 60), .ref (n + 61)])) := (hq183.2 (n + 50) _ ty7 rfl).trans ((hq161.2 (n + 50) _ ty7 rfl).trans (ho_e))
            have fx201 : V179 (n) = some (.inr (9, [.ref (n + 1), .int (z164)])) := (hq183.2 (n) _ ty1 rfl).trans (ho165)
            have hinv9 : hk_Inv cs G a n mo q V179 := ⟨hP.1, ⟨_, _, _, fx198, Or.inl ⟨rfl, rfl⟩, by omega, hJ.keep hP.1 ty18 (fun x t hx hg => (hq_lgp hq183 hx hg (fun _ => rfl)).trans (hq_lgp hq161 hx hg (fun _ => rfl)))⟩, ⟨_, _, _, _, _, _, _, fx199⟩, ⟨_, _, _, _, _, fx200, by omega, by omega⟩, ⟨_, _, _, _, _, _, _, _, _, _, _, _, _, _, _, _, _, _, _, _, fx201, ho187, by omega, by omega, by omega, by omega, by omega, by omega, by omega, by omega, by omega⟩, (hVQ.keep hR (fun x t hx hg => (hq183.2 x t hx (by simp [hg])).trans (hq161.2 x t hx (by simp [hg])))), (by obtain ⟨fs9, h9⟩ := hst; exact ⟨fs9, ((hq183.2 _ _ (hr_19 hR) rfl).trans (hq161.2 _ _ (hr_19 hR) rfl)).trans h9⟩)⟩
            exact ih _ (by omega) _ _ _ ls (y192) rfl hZ hinv9 (by omega) (by omega) (lv_sub hl [0, 1, 2, 3] rfl)
          ·
            rcases Classical.em (y14 = 2) with h202 | h202
            · refine lv_tableIn (off := 177) (tgt := 210) hx hb dL_law_33 (by rw [h202]; decide) (by rw [h202]; decide) (by rw [h202]; decide) (by decide) ?_
              have b203 : (y14).toInt = 2 := by rw [h202]; decide
              refine lv_aload_n hx hb dL_law_210 rfl (lv_at hl 2 rfl) ?_
              refine hp_calli (hp_runV (As := []) (rest := []) hx hb hml hown hts (t_X11_book_0 l D cs B G  V9 n hP.1  (a) ty0 ho_a ty1 ty3 ty5 ty6 ty7 ty16 ty17 (by omega) ho_n ty2 (by omega) ho_p ty4 ho_e ty8 ty9 ty10 ty11 ty12 ty13 ty14 ty15 (by omega) (by omega) ty18 ty19 hJ) hZ ho_a cv_L_23 rfl rfl ⟨Nat.le_of_ble_eq_true rfl, Nat.le_of_ble_eq_true rfl⟩ rfl hl.1 rfl (Nat.le_of_ble_eq_true rfl) dL_law_211 ⟨(Nat.le_of_ble_eq_true rfl), (Nat.le_of_ble_eq_true rfl)⟩) hZ (fun r207 V204 n205 _ _ hw206 hZ => ?_)
              obtain ⟨rfl, hq208, ⟨z210, u211, u212, ho213, hi214, hi215⟩, ⟨z216, ho217, hi218, hi219⟩, ⟨z220, z221, v222, v223, z224, z225, z226, ho227⟩, ⟨z228, ho229, hi230⟩, hr209⟩ := hw206
              have hP := hP.trans hq208 (by intro g h; simp_all)
              have b231 := hq_rng z210
              have b232 := hq_rng z216
              have b233 := hq_rng z220
              have b234 := hq_rng z221
              have b235 := hq_rng z224
              have b236 := hq_rng z225
              have b237 := hq_rng z226
              have b238 := hq_rng z228
              have b239 := hq_rng r207
              refine lv_pop hx hb dL_law_214 rfl ?_
              refine lv_aload_n hx hb dL_law_215 rfl (lv_at hl 1 rfl) ?_
              have hst9 : ∃ fs, V204 (q + 19) = some (.inr (12, fs)) := by obtain ⟨fs9, h9⟩ := hst; exact ⟨fs9, (hq208.2 _ _ (hr_19 hR) rfl).trans h9⟩
              have fx246 : V204 (mo) = some (.inr (13, hm_o q (m_tp) (m_sz) (m_fr) (m_bh) (m_hd) (m_ft) (m_fa) (m_le) (m_fo) (m_as) (m_fd) (m_bc) (m_bg) (m_bs) (m_be) (m_b0) (m_b1) (m_cm) (m_hc))) := (hq208.2 (mo) _ ty20 rfl).trans (ho_m)
              refine hp_calli (hp_runVW (As := []) (rest := []) hx hb hml hown hts (t_X13_book l D cs B G  V204 n hP.1 q hR (mo) ty20 fx246  (by omega) (by omega) (by omega) (by omega) (by omega) (by omega) (by omega) (by omega) (hVQ.keep hR (fun x t hx hg => hq208.2 x t hx (by simp [hg]))) hst9) hZ fx246 cv_L_27 rfl rfl ⟨Nat.le_of_ble_eq_true rfl, Nat.le_of_ble_eq_true rfl⟩ rfl hl.1 rfl (Nat.le_of_ble_eq_true rfl) dL_law_216 ⟨(Nat.le_of_ble_eq_true rfl), (Nat.le_of_ble_eq_true rfl)⟩) hZ (fun r243 V240 n241 _ _ hw242 hZ => ?_)
              obtain ⟨rfl, hq244, ⟨z247, z248, z249, z250, z251, z252, z253, z254, z255, ho256, hi257, hi258, hi259, hi260, hi261⟩, hr245⟩ := hw242
              have hP := hP.trans hq244 (by intro g h; simp_all)
              have b262 := hq_rng z247
              have b263 := hq_rng z248
              have b264 := hq_rng z249
              have b265 := hq_rng z250
              have b266 := hq_rng z251
              have b267 := hq_rng z252
              have b268 := hq_rng z253
              have b269 := hq_rng z254
              have b270 := hq_rng z255
              have b271 := hq_rng r243
              refine lv_pop hx hb dL_law_219 rfl ?_
              refine lv_goto (tgt := 761) hx hb dL_law_220 (by decide) ?_
              obtain ⟨y272, ey273⟩ : ∃ y : Int32, y = i + (6) := ⟨_, rfl⟩
              obtain ⟨k274, hk275, b276, b277⟩ := hq_add (i) (6)
              rw [← ey273] at hk275 b276 b277
              have hk275 : (y272).toInt = (i).toInt + (6) + k274 * 4294967296 := hk275
              refine lv_iinc (v := y272) (lv' := [(3, .int (y272)), (2, .ref (mo)), (1, .ref (a)), (0, .ref (b))]) hx hb dL_law_761 hl (k := 0) rfl (by rw [ey273]; rfl) (by decide) rfl (fun ls hl => ?_)
              refine lv_goto (tgt := 18) hx hb dL_law_764 (by decide) ?_
              have fx278 : V240 (a) = some (.inr (11, [.ref (n), .ref (n + 2), .ref (n + 5), .ref (n + 46), .ref (n + 50), .ref (n + 62), .ref (n + 87), .int (z210), .ref (u211), .ref (u212)])) := (hq244.2 (a) _ ty0 rfl).trans (ho213)
              have fx279 : V240 (n + 2) = some (.inr (7, [.int (z220), .int (z221), v222, v223, .int (z224), .int (z225), .int (z226), .ref (n + 3)])) := (hq244.2 (n + 2) _ ty3 rfl).trans (ho227)
              have fx280 : V240 (n + 50) = some (.inr (1, [.ref (n + 51), .ref (n + 52), .int (e_fd), .ref (n + 53), .ref (n + 55), .ref (n + 57), e_bk, e_an, e_mk, .int (z228), .ref (n + 59), .ref (n + 60), .ref (n + 61)])) := (hq244.2 (n + 50) _ ty7 rfl).trans (ho229)
              have fx281 : V240 (n) = some (.inr (9, [.ref (n + 1), .int (z216)])) := (hq244.2 (n) _ ty1 rfl).trans (ho217)
              have hinv9 : hk_Inv cs G a n mo q V240 := ⟨hP.1, (by rcases hi215 with ⟨h6, h7, h8⟩ | ⟨h6, h7, h8⟩; (· exact ⟨_, _, _, fx278, Or.inl ⟨h6, h7⟩, by omega, by rw [h6]; exact (h8.keep hP.1 ty18 (fun x t hx hg => hq_lgp hq244 hx hg (fun _ => rfl)))⟩); (· exact ⟨_, _, _, fx278, Or.inr ⟨h6, h7⟩, by omega, by rw [h6]; exact (h8.keep hP.1 ty19 (fun x t hx hg => hq_lgp hq244 hx hg (fun _ => rfl)))⟩)), ⟨_, _, _, _, _, _, _, fx279⟩, ⟨_, _, _, _, _, fx280, by omega, by omega⟩, ⟨_, _, _, _, _, _, _, _, _, _, _, _, _, _, _, _, _, _, _, _, fx281, ho256, by omega, by omega, by omega, by omega, by omega, by omega, by omega, by omega, by omega⟩, hr245, (by obtain ⟨fs9, h9⟩ := hst; exact ⟨fs9, ((hq244.2 _ _ (hr_19 hR) rfl).trans (hq208.2 _ _ (hr_19 hR) rfl)).trans h9⟩)⟩
              exact ih _ (by omega) _ _ _ ls (y272) rfl hZ hinv9 (by omega) (by omega) (lv_sub hl [0, 1, 2, 3] rfl)
            ·
              rcases Classical.em (y14 = 3) with h282 | h282
              · refine lv_tableIn (off := 190) (tgt := 223) hx hb dL_law_33 (by rw [h282]; decide) (by rw [h282]; decide) (by rw [h282]; decide) (by decide) ?_
                have b283 : (y14).toInt = 3 := by rw [h282]; decide
                refine lv_aload_n hx hb dL_law_223 rfl (lv_at hl 2 rfl) ?_
                refine lv_aload_n hx hb dL_law_224 rfl (lv_at hl 3 rfl) ?_
                refine lv_iload_n hx hb dL_law_225 rfl (lv_at hl 0 rfl) ?_
                refine lv_iconst (v := 1) hx hb dL_law_226 (by decide) ?_
                refine lv_iadd hx hb dL_law_227 ?_
                refine lv_topi (fun y284 ey285 => ?_)
                obtain ⟨k286, hk287, b288, b289⟩ := hq_add (i) (1)
                rw [← ey285] at hk287 b288 b289
                have hk287 : (y284).toInt = (i).toInt + (1 : Int) + k286 * 4294967296 := hk287
                obtain rfl : k286 = 0 := by omega
                refine va_sld hx hb hX hbl hbA hZ.2.1 (hq_in (by omega) (by omega)) dL_law_228 ?_
                refine lv_topi (fun y290 ey291 => ?_)
                have b292 := hq_rng y290
                refine hp_calli (hp_runV (As := [.int (y290)]) (rest := []) hx hb hml hown hts (t_X11_fault_0 l D cs B G  V9 n hP.1  (a) ty0 (y290) ho_a ty1 ty3 ty5 ty6 ty7 ty16 ty17 ty18 ty19 (by omega) ho_p ty4 ) hZ ho_a cv_L_28 rfl rfl ⟨Nat.le_of_ble_eq_true rfl, Nat.le_of_ble_eq_true rfl⟩ rfl hl.1 rfl (Nat.le_of_ble_eq_true rfl) dL_law_229 ⟨(Nat.le_of_ble_eq_true rfl), (Nat.le_of_ble_eq_true rfl)⟩) hZ (fun r296 V293 n294 _ _ hw295 hZ => ?_)
                obtain ⟨rfl, hq297, ho299, ho300, hr298⟩ := hw295
                have hP := hP.trans hq297 (fun _ _ => rfl)
                have b301 := hq_rng r296
                refine lv_pop hx hb dL_law_232 rfl ?_
                refine lv_aload_n hx hb dL_law_233 rfl (lv_at hl 1 rfl) ?_
                refine lv_aload_n hx hb dL_law_234 rfl (lv_at hl 3 rfl) ?_
                refine lv_iload_n hx hb dL_law_235 rfl (lv_at hl 0 rfl) ?_
                refine lv_iconst (v := 1) hx hb dL_law_236 (by decide) ?_
                refine lv_iadd hx hb dL_law_237 ?_
                refine lv_topi (fun y302 ey303 => ?_)
                obtain ⟨k304, hk305, b306, b307⟩ := hq_add (i) (1)
                rw [← ey303] at hk305 b306 b307
                have hk305 : (y302).toInt = (i).toInt + (1 : Int) + k304 * 4294967296 := hk305
                obtain rfl : k304 = 0 := by omega
                refine va_sld hx hb hX hbl hbA hZ.2.1 (hq_in (by omega) (by omega)) dL_law_238 ?_
                refine lv_topi (fun y308 ey309 => ?_)
                have b310 := hq_rng y308
                have fx317 : V293 (mo) = some (.inr (13, hm_o q (m_tp) (m_sz) (m_fr) (m_bh) (m_hd) (m_ft) (m_fa) (m_le) (m_fo) (m_as) (m_fd) (m_bc) (m_bg) (m_bs) (m_be) (m_b0) (m_b1) (m_cm) (m_hc))) := (hq297.2 (mo) _ ty20 rfl).trans (ho_m)
                refine hp_calli (hp_runV (As := [.int (y308)]) (rest := []) hx hb hml hown hts (t_X13_fault l D cs B G  V293 n hP.1 q hR (mo) ty20 (y308) fx317  (by omega) (by omega) (by omega) (by omega) (by omega) (by omega) (by omega) (by omega) ) hZ fx317 cv_L_31 rfl rfl ⟨Nat.le_of_ble_eq_true rfl, Nat.le_of_ble_eq_true rfl⟩ rfl hl.1 rfl (Nat.le_of_ble_eq_true rfl) dL_law_239 ⟨(Nat.le_of_ble_eq_true rfl), (Nat.le_of_ble_eq_true rfl)⟩) hZ (fun r314 V311 n312 _ _ hw313 hZ => ?_)
                obtain ⟨rfl, hq315, ho318, hr316⟩ := hw313
                have hP := hP.trans hq315 (fun _ _ => rfl)
                have b319 := hq_rng r314
                refine lv_pop hx hb dL_law_242 rfl ?_
                refine lv_goto (tgt := 761) hx hb dL_law_243 (by decide) ?_
                obtain ⟨y320, ey321⟩ : ∃ y : Int32, y = i + (6) := ⟨_, rfl⟩
                obtain ⟨k322, hk323, b324, b325⟩ := hq_add (i) (6)
                rw [← ey321] at hk323 b324 b325
                have hk323 : (y320).toInt = (i).toInt + (6) + k322 * 4294967296 := hk323
                refine lv_iinc (v := y320) (lv' := [(3, .int (y320)), (2, .ref (mo)), (1, .ref (a)), (0, .ref (b))]) hx hb dL_law_761 hl (k := 0) rfl (by rw [ey321]; rfl) (by decide) rfl (fun ls hl => ?_)
                refine lv_goto (tgt := 18) hx hb dL_law_764 (by decide) ?_
                have fx326 : V311 (a) = some (.inr (11, [.ref (n), .ref (n + 2), .ref (n + 5), .ref (n + 46), .ref (n + 50), .ref (n + 62), .ref (n + 87), .int (c_fs), .ref (n + 88), .ref (n + 465)])) := (hq315.2 (a) _ ty0 rfl).trans (ho299)
                have fx327 : V311 (n + 2) = some (.inr (7, [.int (q_fk), .int (q_fp), q_tx, q_ou, .int (q_nx), .int (q_tk), .int (q_st), .ref (n + 3)])) := (hq315.2 (n + 2) _ ty3 rfl).trans (ho300)
                have fx328 : V311 (n + 50) = some (.inr (1, [.ref (n + 51), .ref (n + 52), .int (e_fd), .ref (n + 53), .ref (n + 55), .ref (n + 57), e_bk, e_an, e_mk, .int (e_sz), .ref (n + 59), .ref (n + 60), .ref (n + 61)])) := (hq315.2 (n + 50) _ ty7 rfl).trans ((hq297.2 (n + 50) _ ty7 rfl).trans (ho_e))
                have fx329 : V311 (n) = some (.inr (9, [.ref (n + 1), .int (p_z)])) := (hq315.2 (n) _ ty1 rfl).trans ((hq297.2 (n) _ ty1 rfl).trans (ho_n))
                have hinv9 : hk_Inv cs G a n mo q V311 := ⟨hP.1, ⟨_, _, _, fx326, Or.inl ⟨rfl, rfl⟩, by omega, hJ.keep hP.1 ty18 (fun x t hx hg => (hq_lgp hq315 hx hg (fun _ => rfl)).trans (hq_lgp hq297 hx hg (fun _ => rfl)))⟩, ⟨_, _, _, _, _, _, _, fx327⟩, ⟨_, _, _, _, _, fx328, by omega, by omega⟩, ⟨_, _, _, _, _, _, _, _, _, _, _, _, _, _, _, _, _, _, _, _, fx329, ho318, by omega, by omega, by omega, by omega, by omega, by omega, by omega, by omega, by omega⟩, (hVQ.keep hR (fun x t hx hg => (hq315.2 x t hx (by simp [hg])).trans (hq297.2 x t hx (by simp [hg])))), (by obtain ⟨fs9, h9⟩ := hst; exact ⟨fs9, ((hq315.2 _ _ (hr_19 hR) rfl).trans (hq297.2 _ _ (hr_19 hR) rfl)).trans h9⟩)⟩
                exact ih _ (by omega) _ _ _ ls (y320) rfl hZ hinv9 (by omega) (by omega) (lv_sub hl [0, 1, 2, 3] rfl)
              ·
                rcases Classical.em (y14 = 4) with h330 | h330
                · refine lv_tableIn (off := 213) (tgt := 246) hx hb dL_law_33 (by rw [h330]; decide) (by rw [h330]; decide) (by rw [h330]; decide) (by decide) ?_
                  have b331 : (y14).toInt = 4 := by rw [h330]; decide
                  refine lv_aload_n hx hb dL_law_246 rfl (lv_at hl 2 rfl) ?_
                  refine lv_aload_n hx hb dL_law_247 rfl (lv_at hl 3 rfl) ?_
                  refine lv_iload_n hx hb dL_law_248 rfl (lv_at hl 0 rfl) ?_
                  refine lv_iconst (v := 1) hx hb dL_law_249 (by decide) ?_
                  refine lv_iadd hx hb dL_law_250 ?_
                  refine lv_topi (fun y332 ey333 => ?_)
                  obtain ⟨k334, hk335, b336, b337⟩ := hq_add (i) (1)
                  rw [← ey333] at hk335 b336 b337
                  have hk335 : (y332).toInt = (i).toInt + (1 : Int) + k334 * 4294967296 := hk335
                  obtain rfl : k334 = 0 := by omega
                  refine va_sld hx hb hX hbl hbA hZ.2.1 (hq_in (by omega) (by omega)) dL_law_251 ?_
                  refine lv_topi (fun y338 ey339 => ?_)
                  have b340 := hq_rng y338
                  refine lv_aload_n hx hb dL_law_252 rfl (lv_at hl 3 rfl) ?_
                  refine lv_iload_n hx hb dL_law_253 rfl (lv_at hl 0 rfl) ?_
                  refine lv_iconst (v := 2) hx hb dL_law_254 (by decide) ?_
                  refine lv_iadd hx hb dL_law_255 ?_
                  refine lv_topi (fun y341 ey342 => ?_)
                  obtain ⟨k343, hk344, b345, b346⟩ := hq_add (i) (2)
                  rw [← ey342] at hk344 b345 b346
                  have hk344 : (y341).toInt = (i).toInt + (2 : Int) + k343 * 4294967296 := hk344
                  obtain rfl : k343 = 0 := by omega
                  refine va_sld hx hb hX hbl hbA hZ.2.1 (hq_in (by omega) (by omega)) dL_law_256 ?_
                  refine lv_topi (fun y347 ey348 => ?_)
                  have b349 := hq_rng y347
                  refine hp_calli (hp_runV (As := [.int (y338), .int (y347)]) (rest := []) hx hb hml hown hts (t_X11_verb_0 l D cs B G  V9 n hP.1  (a) ty0 (y338) (y347) ho_a ty1 ty3 ty5 ty6 ty7 ty16 ty17 ty18 ty19 (by omega) ) hZ ho_a cv_L_32 rfl rfl ⟨Nat.le_of_ble_eq_true rfl, Nat.le_of_ble_eq_true rfl⟩ rfl hl.1 rfl (Nat.le_of_ble_eq_true rfl) dL_law_257 ⟨(Nat.le_of_ble_eq_true rfl), (Nat.le_of_ble_eq_true rfl)⟩) hZ (fun r353 V350 n351 _ _ hw352 hZ => ?_)
                  obtain ⟨rfl, hq354, ho356, hr355⟩ := hw352
                  have hP := hP.trans hq354 (fun _ _ => rfl)
                  have b357 := hq_rng r353
                  refine lv_pop hx hb dL_law_260 rfl ?_
                  refine lv_aload_n hx hb dL_law_261 rfl (lv_at hl 1 rfl) ?_
                  refine lv_aload_n hx hb dL_law_262 rfl (lv_at hl 3 rfl) ?_
                  refine lv_iload_n hx hb dL_law_263 rfl (lv_at hl 0 rfl) ?_
                  refine lv_iconst (v := 1) hx hb dL_law_264 (by decide) ?_
                  refine lv_iadd hx hb dL_law_265 ?_
                  refine lv_topi (fun y358 ey359 => ?_)
                  obtain ⟨k360, hk361, b362, b363⟩ := hq_add (i) (1)
                  rw [← ey359] at hk361 b362 b363
                  have hk361 : (y358).toInt = (i).toInt + (1 : Int) + k360 * 4294967296 := hk361
                  obtain rfl : k360 = 0 := by omega
                  refine va_sld hx hb hX hbl hbA hZ.2.1 (hq_in (by omega) (by omega)) dL_law_266 ?_
                  refine lv_topi (fun y364 ey365 => ?_)
                  have b366 := hq_rng y364
                  refine lv_aload_n hx hb dL_law_267 rfl (lv_at hl 3 rfl) ?_
                  refine lv_iload_n hx hb dL_law_268 rfl (lv_at hl 0 rfl) ?_
                  refine lv_iconst (v := 2) hx hb dL_law_269 (by decide) ?_
                  refine lv_iadd hx hb dL_law_270 ?_
                  refine lv_topi (fun y367 ey368 => ?_)
                  obtain ⟨k369, hk370, b371, b372⟩ := hq_add (i) (2)
                  rw [← ey368] at hk370 b371 b372
                  have hk370 : (y367).toInt = (i).toInt + (2 : Int) + k369 * 4294967296 := hk370
                  obtain rfl : k369 = 0 := by omega
                  refine va_sld hx hb hX hbl hbA hZ.2.1 (hq_in (by omega) (by omega)) dL_law_271 ?_
                  refine lv_topi (fun y373 ey374 => ?_)
                  have b375 := hq_rng y373
                  have fx382 : V350 (mo) = some (.inr (13, hm_o q (m_tp) (m_sz) (m_fr) (m_bh) (m_hd) (m_ft) (m_fa) (m_le) (m_fo) (m_as) (m_fd) (m_bc) (m_bg) (m_bs) (m_be) (m_b0) (m_b1) (m_cm) (m_hc))) := (hq354.2 (mo) _ ty20 rfl).trans (ho_m)
                  refine hp_calli (hp_runV (As := [.int (y364), .int (y373)]) (rest := []) hx hb hml hown hts (t_X13_verb l D cs B G  V350 n hP.1 q hR (mo) ty20 (y364) (y373) fx382  (by omega) (by omega) (by omega) (by omega) (by omega) (by omega) (by omega) (by omega) ) hZ fx382 cv_L_36 rfl rfl ⟨Nat.le_of_ble_eq_true rfl, Nat.le_of_ble_eq_true rfl⟩ rfl hl.1 rfl (Nat.le_of_ble_eq_true rfl) dL_law_272 ⟨(Nat.le_of_ble_eq_true rfl), (Nat.le_of_ble_eq_true rfl)⟩) hZ (fun r379 V376 n377 _ _ hw378 hZ => ?_)
                  obtain ⟨rfl, hq380, ho383, hr381⟩ := hw378
                  have hP := hP.trans hq380 (fun _ _ => rfl)
                  have b384 := hq_rng r379
                  refine lv_pop hx hb dL_law_275 rfl ?_
                  refine lv_goto (tgt := 761) hx hb dL_law_276 (by decide) ?_
                  obtain ⟨y385, ey386⟩ : ∃ y : Int32, y = i + (6) := ⟨_, rfl⟩
                  obtain ⟨k387, hk388, b389, b390⟩ := hq_add (i) (6)
                  rw [← ey386] at hk388 b389 b390
                  have hk388 : (y385).toInt = (i).toInt + (6) + k387 * 4294967296 := hk388
                  refine lv_iinc (v := y385) (lv' := [(3, .int (y385)), (2, .ref (mo)), (1, .ref (a)), (0, .ref (b))]) hx hb dL_law_761 hl (k := 0) rfl (by rw [ey386]; rfl) (by decide) rfl (fun ls hl => ?_)
                  refine lv_goto (tgt := 18) hx hb dL_law_764 (by decide) ?_
                  have fx391 : V376 (a) = some (.inr (11, [.ref (n), .ref (n + 2), .ref (n + 5), .ref (n + 46), .ref (n + 50), .ref (n + 62), .ref (n + 87), .int (c_fs), .ref (n + 88), .ref (n + 465)])) := (hq380.2 (a) _ ty0 rfl).trans (ho356)
                  have fx392 : V376 (n + 2) = some (.inr (7, [.int (q_fk), .int (q_fp), q_tx, q_ou, .int (q_nx), .int (q_tk), .int (q_st), .ref (n + 3)])) := (hq380.2 (n + 2) _ ty3 rfl).trans ((hq354.2 (n + 2) _ ty3 rfl).trans (ho_p))
                  have fx393 : V376 (n + 50) = some (.inr (1, [.ref (n + 51), .ref (n + 52), .int (e_fd), .ref (n + 53), .ref (n + 55), .ref (n + 57), e_bk, e_an, e_mk, .int (e_sz), .ref (n + 59), .ref (n + 60), .ref (n + 61)])) := (hq380.2 (n + 50) _ ty7 rfl).trans ((hq354.2 (n + 50) _ ty7 rfl).trans (ho_e))
                  have fx394 : V376 (n) = some (.inr (9, [.ref (n + 1), .int (p_z)])) := (hq380.2 (n) _ ty1 rfl).trans ((hq354.2 (n) _ ty1 rfl).trans (ho_n))
                  have hinv9 : hk_Inv cs G a n mo q V376 := ⟨hP.1, ⟨_, _, _, fx391, Or.inl ⟨rfl, rfl⟩, by omega, hJ.keep hP.1 ty18 (fun x t hx hg => (hq_lgp hq380 hx hg (fun _ => rfl)).trans (hq_lgp hq354 hx hg (fun _ => rfl)))⟩, ⟨_, _, _, _, _, _, _, fx392⟩, ⟨_, _, _, _, _, fx393, by omega, by omega⟩, ⟨_, _, _, _, _, _, _, _, _, _, _, _, _, _, _, _, _, _, _, _, fx394, ho383, by omega, by omega, by omega, by omega, by omega, by omega, by omega, by omega, by omega⟩, (hVQ.keep hR (fun x t hx hg => (hq380.2 x t hx (by simp [hg])).trans (hq354.2 x t hx (by simp [hg])))), (by obtain ⟨fs9, h9⟩ := hst; exact ⟨fs9, ((hq380.2 _ _ (hr_19 hR) rfl).trans (hq354.2 _ _ (hr_19 hR) rfl)).trans h9⟩)⟩
                  exact ih _ (by omega) _ _ _ ls (y385) rfl hZ hinv9 (by omega) (by omega) (lv_sub hl [0, 1, 2, 3] rfl)
                ·
                  rcases Classical.em (y14 = 5) with h395 | h395
                  · refine lv_tableIn (off := 246) (tgt := 279) hx hb dL_law_33 (by rw [h395]; decide) (by rw [h395]; decide) (by rw [h395]; decide) (by decide) ?_
                    have b396 : (y14).toInt = 5 := by rw [h395]; decide
                    refine lv_aload_n hx hb dL_law_279 rfl (lv_at hl 2 rfl) ?_
                    refine lv_aload_n hx hb dL_law_280 rfl (lv_at hl 3 rfl) ?_
                    refine lv_iload_n hx hb dL_law_281 rfl (lv_at hl 0 rfl) ?_
                    refine lv_iconst (v := 1) hx hb dL_law_282 (by decide) ?_
                    refine lv_iadd hx hb dL_law_283 ?_
                    refine lv_topi (fun y397 ey398 => ?_)
                    obtain ⟨k399, hk400, b401, b402⟩ := hq_add (i) (1)
                    rw [← ey398] at hk400 b401 b402
                    have hk400 : (y397).toInt = (i).toInt + (1 : Int) + k399 * 4294967296 := hk400
                    obtain rfl : k399 = 0 := by omega
                    refine va_sld hx hb hX hbl hbA hZ.2.1 (hq_in (by omega) (by omega)) dL_law_284 ?_
                    refine lv_topi (fun y403 ey404 => ?_)
                    have b405 := hq_rng y403
                    refine lv_aload_n hx hb dL_law_285 rfl (lv_at hl 3 rfl) ?_
                    refine lv_iload_n hx hb dL_law_286 rfl (lv_at hl 0 rfl) ?_
                    refine lv_iconst (v := 2) hx hb dL_law_287 (by decide) ?_
                    refine lv_iadd hx hb dL_law_288 ?_
                    refine lv_topi (fun y406 ey407 => ?_)
                    obtain ⟨k408, hk409, b410, b411⟩ := hq_add (i) (2)
                    rw [← ey407] at hk409 b410 b411
                    have hk409 : (y406).toInt = (i).toInt + (2 : Int) + k408 * 4294967296 := hk409
                    obtain rfl : k408 = 0 := by omega
                    refine va_sld hx hb hX hbl hbA hZ.2.1 (hq_in (by omega) (by omega)) dL_law_289 ?_
                    refine lv_topi (fun y412 ey413 => ?_)
                    have b414 := hq_rng y412
                    refine hp_calli (hp_runV (As := [.int (y403), .int (y412)]) (rest := []) hx hb hml hown hts (t_X11_line_0 l D cs B G  V9 n hP.1  (a) ty0 (y403) (y412) ho_a ty1 ty3 ty5 ty6 ty7 ty16 ty17 ty18 ty19 (by omega) ) hZ ho_a cv_L_37 rfl rfl ⟨Nat.le_of_ble_eq_true rfl, Nat.le_of_ble_eq_true rfl⟩ rfl hl.1 rfl (Nat.le_of_ble_eq_true rfl) dL_law_290 ⟨(Nat.le_of_ble_eq_true rfl), (Nat.le_of_ble_eq_true rfl)⟩) hZ (fun r418 V415 n416 _ _ hw417 hZ => ?_)
                    obtain ⟨rfl, hq419, ho421, hr420⟩ := hw417
                    have hP := hP.trans hq419 (fun _ _ => rfl)
                    have b422 := hq_rng r418
                    refine lv_pop hx hb dL_law_293 rfl ?_
                    refine lv_aload_n hx hb dL_law_294 rfl (lv_at hl 1 rfl) ?_
                    refine lv_aload_n hx hb dL_law_295 rfl (lv_at hl 3 rfl) ?_
                    refine lv_iload_n hx hb dL_law_296 rfl (lv_at hl 0 rfl) ?_
                    refine lv_iconst (v := 1) hx hb dL_law_297 (by decide) ?_
                    refine lv_iadd hx hb dL_law_298 ?_
                    refine lv_topi (fun y423 ey424 => ?_)
                    obtain ⟨k425, hk426, b427, b428⟩ := hq_add (i) (1)
                    rw [← ey424] at hk426 b427 b428
                    have hk426 : (y423).toInt = (i).toInt + (1 : Int) + k425 * 4294967296 := hk426
                    obtain rfl : k425 = 0 := by omega
                    refine va_sld hx hb hX hbl hbA hZ.2.1 (hq_in (by omega) (by omega)) dL_law_299 ?_
                    refine lv_topi (fun y429 ey430 => ?_)
                    have b431 := hq_rng y429
                    refine lv_aload_n hx hb dL_law_300 rfl (lv_at hl 3 rfl) ?_
                    refine lv_iload_n hx hb dL_law_301 rfl (lv_at hl 0 rfl) ?_
                    refine lv_iconst (v := 2) hx hb dL_law_302 (by decide) ?_
                    refine lv_iadd hx hb dL_law_303 ?_
                    refine lv_topi (fun y432 ey433 => ?_)
                    obtain ⟨k434, hk435, b436, b437⟩ := hq_add (i) (2)
                    rw [← ey433] at hk435 b436 b437
                    have hk435 : (y432).toInt = (i).toInt + (2 : Int) + k434 * 4294967296 := hk435
                    obtain rfl : k434 = 0 := by omega
                    refine va_sld hx hb hX hbl hbA hZ.2.1 (hq_in (by omega) (by omega)) dL_law_304 ?_
                    refine lv_topi (fun y438 ey439 => ?_)
                    have b440 := hq_rng y438
                    have fx447 : V415 (mo) = some (.inr (13, hm_o q (m_tp) (m_sz) (m_fr) (m_bh) (m_hd) (m_ft) (m_fa) (m_le) (m_fo) (m_as) (m_fd) (m_bc) (m_bg) (m_bs) (m_be) (m_b0) (m_b1) (m_cm) (m_hc))) := (hq419.2 (mo) _ ty20 rfl).trans (ho_m)
                    refine hp_calli (hp_runV (As := [.int (y429), .int (y438)]) (rest := []) hx hb hml hown hts (t_X13_line l D cs B G  V415 n hP.1 q hR (mo) ty20 (y429) (y438) fx447  (by omega) (by omega) (by omega) (by omega) (by omega) (by omega) (by omega) (by omega) ) hZ fx447 cv_L_40 rfl rfl ⟨Nat.le_of_ble_eq_true rfl, Nat.le_of_ble_eq_true rfl⟩ rfl hl.1 rfl (Nat.le_of_ble_eq_true rfl) dL_law_305 ⟨(Nat.le_of_ble_eq_true rfl), (Nat.le_of_ble_eq_true rfl)⟩) hZ (fun r444 V441 n442 _ _ hw443 hZ => ?_)
                    obtain ⟨rfl, hq445, ho448, hr446⟩ := hw443
                    have hP := hP.trans hq445 (fun _ _ => rfl)
                    have b449 := hq_rng r444
                    refine lv_pop hx hb dL_law_308 rfl ?_
                    refine lv_goto (tgt := 761) hx hb dL_law_309 (by decide) ?_
                    obtain ⟨y450, ey451⟩ : ∃ y : Int32, y = i + (6) := ⟨_, rfl⟩
                    obtain ⟨k452, hk453, b454, b455⟩ := hq_add (i) (6)
                    rw [← ey451] at hk453 b454 b455
                    have hk453 : (y450).toInt = (i).toInt + (6) + k452 * 4294967296 := hk453
                    refine lv_iinc (v := y450) (lv' := [(3, .int (y450)), (2, .ref (mo)), (1, .ref (a)), (0, .ref (b))]) hx hb dL_law_761 hl (k := 0) rfl (by rw [ey451]; rfl) (by decide) rfl (fun ls hl => ?_)
                    refine lv_goto (tgt := 18) hx hb dL_law_764 (by decide) ?_
                    have fx456 : V441 (a) = some (.inr (11, [.ref (n), .ref (n + 2), .ref (n + 5), .ref (n + 46), .ref (n + 50), .ref (n + 62), .ref (n + 87), .int (c_fs), .ref (n + 88), .ref (n + 465)])) := (hq445.2 (a) _ ty0 rfl).trans (ho421)
                    have fx457 : V441 (n + 2) = some (.inr (7, [.int (q_fk), .int (q_fp), q_tx, q_ou, .int (q_nx), .int (q_tk), .int (q_st), .ref (n + 3)])) := (hq445.2 (n + 2) _ ty3 rfl).trans ((hq419.2 (n + 2) _ ty3 rfl).trans (ho_p))
                    have fx458 : V441 (n + 50) = some (.inr (1, [.ref (n + 51), .ref (n + 52), .int (e_fd), .ref (n + 53), .ref (n + 55), .ref (n + 57), e_bk, e_an, e_mk, .int (e_sz), .ref (n + 59), .ref (n + 60), .ref (n + 61)])) := (hq445.2 (n + 50) _ ty7 rfl).trans ((hq419.2 (n + 50) _ ty7 rfl).trans (ho_e))
                    have fx459 : V441 (n) = some (.inr (9, [.ref (n + 1), .int (p_z)])) := (hq445.2 (n) _ ty1 rfl).trans ((hq419.2 (n) _ ty1 rfl).trans (ho_n))
                    have hinv9 : hk_Inv cs G a n mo q V441 := ⟨hP.1, ⟨_, _, _, fx456, Or.inl ⟨rfl, rfl⟩, by omega, hJ.keep hP.1 ty18 (fun x t hx hg => (hq_lgp hq445 hx hg (fun _ => rfl)).trans (hq_lgp hq419 hx hg (fun _ => rfl)))⟩, ⟨_, _, _, _, _, _, _, fx457⟩, ⟨_, _, _, _, _, fx458, by omega, by omega⟩, ⟨_, _, _, _, _, _, _, _, _, _, _, _, _, _, _, _, _, _, _, _, fx459, ho448, by omega, by omega, by omega, by omega, by omega, by omega, by omega, by omega, by omega⟩, (hVQ.keep hR (fun x t hx hg => (hq445.2 x t hx (by simp [hg])).trans (hq419.2 x t hx (by simp [hg])))), (by obtain ⟨fs9, h9⟩ := hst; exact ⟨fs9, ((hq445.2 _ _ (hr_19 hR) rfl).trans (hq419.2 _ _ (hr_19 hR) rfl)).trans h9⟩)⟩
                    exact ih _ (by omega) _ _ _ ls (y450) rfl hZ hinv9 (by omega) (by omega) (lv_sub hl [0, 1, 2, 3] rfl)
                  ·
                    rcases Classical.em (y14 = 6) with h460 | h460
                    · refine lv_tableIn (off := 279) (tgt := 312) hx hb dL_law_33 (by rw [h460]; decide) (by rw [h460]; decide) (by rw [h460]; decide) (by decide) ?_
                      have b461 : (y14).toInt = 6 := by rw [h460]; decide
                      refine lv_aload_n hx hb dL_law_312 rfl (lv_at hl 2 rfl) ?_
                      refine lv_aload_n hx hb dL_law_313 rfl (lv_at hl 3 rfl) ?_
                      refine lv_iload_n hx hb dL_law_314 rfl (lv_at hl 0 rfl) ?_
                      refine lv_iconst (v := 1) hx hb dL_law_315 (by decide) ?_
                      refine lv_iadd hx hb dL_law_316 ?_
                      refine lv_topi (fun y462 ey463 => ?_)
                      obtain ⟨k464, hk465, b466, b467⟩ := hq_add (i) (1)
                      rw [← ey463] at hk465 b466 b467
                      have hk465 : (y462).toInt = (i).toInt + (1 : Int) + k464 * 4294967296 := hk465
                      obtain rfl : k464 = 0 := by omega
                      refine va_sld hx hb hX hbl hbA hZ.2.1 (hq_in (by omega) (by omega)) dL_law_317 ?_
                      refine lv_topi (fun y468 ey469 => ?_)
                      have b470 := hq_rng y468
                      refine lv_aload_n hx hb dL_law_318 rfl (lv_at hl 3 rfl) ?_
                      refine lv_iload_n hx hb dL_law_319 rfl (lv_at hl 0 rfl) ?_
                      refine lv_iconst (v := 2) hx hb dL_law_320 (by decide) ?_
                      refine lv_iadd hx hb dL_law_321 ?_
                      refine lv_topi (fun y471 ey472 => ?_)
                      obtain ⟨k473, hk474, b475, b476⟩ := hq_add (i) (2)
                      rw [← ey472] at hk474 b475 b476
                      have hk474 : (y471).toInt = (i).toInt + (2 : Int) + k473 * 4294967296 := hk474
                      obtain rfl : k473 = 0 := by omega
                      refine va_sld hx hb hX hbl hbA hZ.2.1 (hq_in (by omega) (by omega)) dL_law_322 ?_
                      refine lv_topi (fun y477 ey478 => ?_)
                      have b479 := hq_rng y477
                      refine lv_aload_n hx hb dL_law_323 rfl (lv_at hl 3 rfl) ?_
                      refine lv_iload_n hx hb dL_law_324 rfl (lv_at hl 0 rfl) ?_
                      refine lv_iconst (v := 3) hx hb dL_law_325 (by decide) ?_
                      refine lv_iadd hx hb dL_law_326 ?_
                      refine lv_topi (fun y480 ey481 => ?_)
                      obtain ⟨k482, hk483, b484, b485⟩ := hq_add (i) (3)
                      rw [← ey481] at hk483 b484 b485
                      have hk483 : (y480).toInt = (i).toInt + (3 : Int) + k482 * 4294967296 := hk483
                      obtain rfl : k482 = 0 := by omega
                      refine va_sld hx hb hX hbl hbA hZ.2.1 (hq_in (by omega) (by omega)) dL_law_327 ?_
                      refine lv_topi (fun y486 ey487 => ?_)
                      have b488 := hq_rng y486
                      refine hp_calli (hp_runV (As := [.int (y468), .int (y477), .int (y486)]) (rest := []) hx hb hml hown hts (t_X11_forms_0 l D cs B G  V9 n hP.1  (a) ty0 (y468) (y477) (y486) ho_a ty1 ty3 ty5 ty6 ty7 ty16 ty17 ty18 ty19 (by omega) hJ) hZ ho_a cv_L_41 rfl rfl ⟨Nat.le_of_ble_eq_true rfl, Nat.le_of_ble_eq_true rfl⟩ rfl hl.1 rfl (Nat.le_of_ble_eq_true rfl) dL_law_328 ⟨(Nat.le_of_ble_eq_true rfl), (Nat.le_of_ble_eq_true rfl)⟩) hZ (fun r492 V489 n490 _ _ hw491 hZ => ?_)
                      obtain ⟨rfl, hq493, ho495, hr494⟩ := hw491
                      have hP := hP.trans hq493 (by intro g h; simp_all)
                      have b496 := hq_rng r492
                      refine lv_pop hx hb dL_law_331 rfl ?_
                      refine lv_aload_n hx hb dL_law_332 rfl (lv_at hl 1 rfl) ?_
                      refine lv_aload_n hx hb dL_law_333 rfl (lv_at hl 3 rfl) ?_
                      refine lv_iload_n hx hb dL_law_334 rfl (lv_at hl 0 rfl) ?_
                      refine lv_iconst (v := 1) hx hb dL_law_335 (by decide) ?_
                      refine lv_iadd hx hb dL_law_336 ?_
                      refine lv_topi (fun y497 ey498 => ?_)
                      obtain ⟨k499, hk500, b501, b502⟩ := hq_add (i) (1)
                      rw [← ey498] at hk500 b501 b502
                      have hk500 : (y497).toInt = (i).toInt + (1 : Int) + k499 * 4294967296 := hk500
                      obtain rfl : k499 = 0 := by omega
                      refine va_sld hx hb hX hbl hbA hZ.2.1 (hq_in (by omega) (by omega)) dL_law_337 ?_
                      refine lv_topi (fun y503 ey504 => ?_)
                      have b505 := hq_rng y503
                      refine lv_aload_n hx hb dL_law_338 rfl (lv_at hl 3 rfl) ?_
                      refine lv_iload_n hx hb dL_law_339 rfl (lv_at hl 0 rfl) ?_
                      refine lv_iconst (v := 2) hx hb dL_law_340 (by decide) ?_
                      refine lv_iadd hx hb dL_law_341 ?_
                      refine lv_topi (fun y506 ey507 => ?_)
                      obtain ⟨k508, hk509, b510, b511⟩ := hq_add (i) (2)
                      rw [← ey507] at hk509 b510 b511
                      have hk509 : (y506).toInt = (i).toInt + (2 : Int) + k508 * 4294967296 := hk509
                      obtain rfl : k508 = 0 := by omega
                      refine va_sld hx hb hX hbl hbA hZ.2.1 (hq_in (by omega) (by omega)) dL_law_342 ?_
                      refine lv_topi (fun y512 ey513 => ?_)
                      have b514 := hq_rng y512
                      refine lv_aload_n hx hb dL_law_343 rfl (lv_at hl 3 rfl) ?_
                      refine lv_iload_n hx hb dL_law_344 rfl (lv_at hl 0 rfl) ?_
                      refine lv_iconst (v := 3) hx hb dL_law_345 (by decide) ?_
                      refine lv_iadd hx hb dL_law_346 ?_
                      refine lv_topi (fun y515 ey516 => ?_)
                      obtain ⟨k517, hk518, b519, b520⟩ := hq_add (i) (3)
                      rw [← ey516] at hk518 b519 b520
                      have hk518 : (y515).toInt = (i).toInt + (3 : Int) + k517 * 4294967296 := hk518
                      obtain rfl : k517 = 0 := by omega
                      refine va_sld hx hb hX hbl hbA hZ.2.1 (hq_in (by omega) (by omega)) dL_law_347 ?_
                      refine lv_topi (fun y521 ey522 => ?_)
                      have b523 := hq_rng y521
                      have fx530 : V489 (mo) = some (.inr (13, hm_o q (m_tp) (m_sz) (m_fr) (m_bh) (m_hd) (m_ft) (m_fa) (m_le) (m_fo) (m_as) (m_fd) (m_bc) (m_bg) (m_bs) (m_be) (m_b0) (m_b1) (m_cm) (m_hc))) := (hq493.2 (mo) _ ty20 rfl).trans (ho_m)
                      refine hp_calli (hp_runV (As := [.int (y503), .int (y512), .int (y521)]) (rest := []) hx hb hml hown hts (t_X13_forms l D cs B G  V489 n hP.1 q hR (mo) ty20 (y503) (y512) (y521) fx530  (by omega) (by omega) (by omega) (by omega) (by omega) (by omega) (by omega) (by omega) (hVQ.keep hR (fun x t hx hg => hq493.2 x t hx (by simp [hg])))) hZ fx530 cv_L_45 rfl rfl ⟨Nat.le_of_ble_eq_true rfl, Nat.le_of_ble_eq_true rfl⟩ rfl hl.1 rfl (Nat.le_of_ble_eq_true rfl) dL_law_348 ⟨(Nat.le_of_ble_eq_true rfl), (Nat.le_of_ble_eq_true rfl)⟩) hZ (fun r527 V524 n525 _ _ hw526 hZ => ?_)
                      obtain ⟨rfl, hq528, ⟨z531, z532, ho533, hi534, hi535⟩, hr529⟩ := hw526
                      have hP := hP.trans hq528 (by intro g h; simp_all)
                      have b536 := hq_rng z532
                      have b537 := hq_rng z531
                      have b538 := hq_rng r527
                      refine lv_pop hx hb dL_law_351 rfl ?_
                      refine lv_goto (tgt := 761) hx hb dL_law_352 (by decide) ?_
                      obtain ⟨y539, ey540⟩ : ∃ y : Int32, y = i + (6) := ⟨_, rfl⟩
                      obtain ⟨k541, hk542, b543, b544⟩ := hq_add (i) (6)
                      rw [← ey540] at hk542 b543 b544
                      have hk542 : (y539).toInt = (i).toInt + (6) + k541 * 4294967296 := hk542
                      refine lv_iinc (v := y539) (lv' := [(3, .int (y539)), (2, .ref (mo)), (1, .ref (a)), (0, .ref (b))]) hx hb dL_law_761 hl (k := 0) rfl (by rw [ey540]; rfl) (by decide) rfl (fun ls hl => ?_)
                      refine lv_goto (tgt := 18) hx hb dL_law_764 (by decide) ?_
                      have fx545 : V524 (a) = some (.inr (11, [.ref (n), .ref (n + 2), .ref (n + 5), .ref (n + 46), .ref (n + 50), .ref (n + 62), .ref (n + 87), .int (c_fs), .ref (n + 88), .ref (n + 465)])) := (hq528.2 (a) _ ty0 rfl).trans (ho495)
                      have fx546 : V524 (n + 2) = some (.inr (7, [.int (q_fk), .int (q_fp), q_tx, q_ou, .int (q_nx), .int (q_tk), .int (q_st), .ref (n + 3)])) := (hq528.2 (n + 2) _ ty3 rfl).trans ((hq493.2 (n + 2) _ ty3 rfl).trans (ho_p))
                      have fx547 : V524 (n + 50) = some (.inr (1, [.ref (n + 51), .ref (n + 52), .int (e_fd), .ref (n + 53), .ref (n + 55), .ref (n + 57), e_bk, e_an, e_mk, .int (e_sz), .ref (n + 59), .ref (n + 60), .ref (n + 61)])) := (hq528.2 (n + 50) _ ty7 rfl).trans ((hq493.2 (n + 50) _ ty7 rfl).trans (ho_e))
                      have fx548 : V524 (n) = some (.inr (9, [.ref (n + 1), .int (p_z)])) := (hq528.2 (n) _ ty1 rfl).trans ((hq493.2 (n) _ ty1 rfl).trans (ho_n))
                      have hinv9 : hk_Inv cs G a n mo q V524 := ⟨hP.1, ⟨_, _, _, fx545, Or.inl ⟨rfl, rfl⟩, by omega, hJ.keep hP.1 ty18 (fun x t hx hg => (hq_lgp hq528 hx hg (fun _ => rfl)).trans (hq_lgp hq493 hx hg (fun _ => rfl)))⟩, ⟨_, _, _, _, _, _, _, fx546⟩, ⟨_, _, _, _, _, fx547, by omega, by omega⟩, ⟨_, _, _, _, _, _, _, _, _, _, _, _, _, _, _, _, _, _, _, _, fx548, ho533, by omega, by omega, by omega, by omega, by omega, by omega, by omega, by omega, by omega⟩, (hVQ.keep hR (fun x t hx hg => (hq528.2 x t hx (by simp [hg])).trans (hq493.2 x t hx (by simp [hg])))), (by obtain ⟨fs9, h9⟩ := hst; exact ⟨fs9, ((hq528.2 _ _ (hr_19 hR) rfl).trans (hq493.2 _ _ (hr_19 hR) rfl)).trans h9⟩)⟩
                      exact ih _ (by omega) _ _ _ ls (y539) rfl hZ hinv9 (by omega) (by omega) (lv_sub hl [0, 1, 2, 3] rfl)
                    ·
                      rcases Classical.em (y14 = 7) with h549 | h549
                      · refine lv_tableIn (off := 322) (tgt := 355) hx hb dL_law_33 (by rw [h549]; decide) (by rw [h549]; decide) (by rw [h549]; decide) (by decide) ?_
                        have b550 : (y14).toInt = 7 := by rw [h549]; decide
                        refine lv_aload_n hx hb dL_law_355 rfl (lv_at hl 2 rfl) ?_
                        refine lv_aload_n hx hb dL_law_356 rfl (lv_at hl 3 rfl) ?_
                        refine lv_iload_n hx hb dL_law_357 rfl (lv_at hl 0 rfl) ?_
                        refine lv_iconst (v := 1) hx hb dL_law_358 (by decide) ?_
                        refine lv_iadd hx hb dL_law_359 ?_
                        refine lv_topi (fun y551 ey552 => ?_)
                        obtain ⟨k553, hk554, b555, b556⟩ := hq_add (i) (1)
                        rw [← ey552] at hk554 b555 b556
                        have hk554 : (y551).toInt = (i).toInt + (1 : Int) + k553 * 4294967296 := hk554
                        obtain rfl : k553 = 0 := by omega
                        refine va_sld hx hb hX hbl hbA hZ.2.1 (hq_in (by omega) (by omega)) dL_law_360 ?_
                        refine lv_topi (fun y557 ey558 => ?_)
                        have b559 := hq_rng y557
                        refine lv_aload_n hx hb dL_law_361 rfl (lv_at hl 3 rfl) ?_
                        refine lv_iload_n hx hb dL_law_362 rfl (lv_at hl 0 rfl) ?_
                        refine lv_iconst (v := 2) hx hb dL_law_363 (by decide) ?_
                        refine lv_iadd hx hb dL_law_364 ?_
                        refine lv_topi (fun y560 ey561 => ?_)
                        obtain ⟨k562, hk563, b564, b565⟩ := hq_add (i) (2)
                        rw [← ey561] at hk563 b564 b565
                        have hk563 : (y560).toInt = (i).toInt + (2 : Int) + k562 * 4294967296 := hk563
                        obtain rfl : k562 = 0 := by omega
                        refine va_sld hx hb hX hbl hbA hZ.2.1 (hq_in (by omega) (by omega)) dL_law_365 ?_
                        refine lv_topi (fun y566 ey567 => ?_)
                        have b568 := hq_rng y566
                        refine lv_aload_n hx hb dL_law_366 rfl (lv_at hl 3 rfl) ?_
                        refine lv_iload_n hx hb dL_law_367 rfl (lv_at hl 0 rfl) ?_
                        refine lv_iconst (v := 3) hx hb dL_law_368 (by decide) ?_
                        refine lv_iadd hx hb dL_law_369 ?_
                        refine lv_topi (fun y569 ey570 => ?_)
                        obtain ⟨k571, hk572, b573, b574⟩ := hq_add (i) (3)
                        rw [← ey570] at hk572 b573 b574
                        have hk572 : (y569).toInt = (i).toInt + (3 : Int) + k571 * 4294967296 := hk572
                        obtain rfl : k571 = 0 := by omega
                        refine va_sld hx hb hX hbl hbA hZ.2.1 (hq_in (by omega) (by omega)) dL_law_370 ?_
                        refine lv_topi (fun y575 ey576 => ?_)
                        have b577 := hq_rng y575
                        refine lv_aload_n hx hb dL_law_371 rfl (lv_at hl 3 rfl) ?_
                        refine lv_iload_n hx hb dL_law_372 rfl (lv_at hl 0 rfl) ?_
                        refine lv_iconst (v := 4) hx hb dL_law_373 (by decide) ?_
                        refine lv_iadd hx hb dL_law_374 ?_
                        refine lv_topi (fun y578 ey579 => ?_)
                        obtain ⟨k580, hk581, b582, b583⟩ := hq_add (i) (4)
                        rw [← ey579] at hk581 b582 b583
                        have hk581 : (y578).toInt = (i).toInt + (4 : Int) + k580 * 4294967296 := hk581
                        obtain rfl : k580 = 0 := by omega
                        refine va_sld hx hb hX hbl hbA hZ.2.1 (hq_in (by omega) (by omega)) dL_law_375 ?_
                        refine lv_topi (fun y584 ey585 => ?_)
                        have b586 := hq_rng y584
                        refine lv_aload_n hx hb dL_law_376 rfl (lv_at hl 3 rfl) ?_
                        refine lv_iload_n hx hb dL_law_377 rfl (lv_at hl 0 rfl) ?_
                        refine lv_iconst (v := 5) hx hb dL_law_378 (by decide) ?_
                        refine lv_iadd hx hb dL_law_379 ?_
                        refine lv_topi (fun y587 ey588 => ?_)
                        obtain ⟨k589, hk590, b591, b592⟩ := hq_add (i) (5)
                        rw [← ey588] at hk590 b591 b592
                        have hk590 : (y587).toInt = (i).toInt + (5 : Int) + k589 * 4294967296 := hk590
                        obtain rfl : k589 = 0 := by omega
                        refine va_sld hx hb hX hbl hbA hZ.2.1 (hq_in (by omega) (by omega)) dL_law_380 ?_
                        refine lv_topi (fun y593 ey594 => ?_)
                        have b595 := hq_rng y593
                        refine hp_calli (hp_runV (As := [.int (y557), .int (y566), .int (y575), .int (y584), .int (y593)]) (rest := []) hx hb hml hown hts (t_X11_form_0 l D cs B G  V9 n hP.1  (a) ty0 (y557) (y566) (y575) (y584) (y593) ho_a ty1 ty3 ty5 ty6 ty7 ty16 ty17 ty18 ty19 (by omega) hJ) hZ ho_a cv_L_46 rfl rfl ⟨Nat.le_of_ble_eq_true rfl, Nat.le_of_ble_eq_true rfl⟩ rfl hl.1 rfl (Nat.le_of_ble_eq_true rfl) dL_law_381 ⟨(Nat.le_of_ble_eq_true rfl), (Nat.le_of_ble_eq_true rfl)⟩) hZ (fun r599 V596 n597 _ _ hw598 hZ => ?_)
                        obtain ⟨rfl, hq600, ho602, hr601⟩ := hw598
                        have hP := hP.trans hq600 (by intro g h; simp_all)
                        have b603 := hq_rng r599
                        refine lv_pop hx hb dL_law_384 rfl ?_
                        refine lv_aload_n hx hb dL_law_385 rfl (lv_at hl 1 rfl) ?_
                        refine lv_aload_n hx hb dL_law_386 rfl (lv_at hl 3 rfl) ?_
                        refine lv_iload_n hx hb dL_law_387 rfl (lv_at hl 0 rfl) ?_
                        refine lv_iconst (v := 1) hx hb dL_law_388 (by decide) ?_
                        refine lv_iadd hx hb dL_law_389 ?_
                        refine lv_topi (fun y604 ey605 => ?_)
                        obtain ⟨k606, hk607, b608, b609⟩ := hq_add (i) (1)
                        rw [← ey605] at hk607 b608 b609
                        have hk607 : (y604).toInt = (i).toInt + (1 : Int) + k606 * 4294967296 := hk607
                        obtain rfl : k606 = 0 := by omega
                        refine va_sld hx hb hX hbl hbA hZ.2.1 (hq_in (by omega) (by omega)) dL_law_390 ?_
                        refine lv_topi (fun y610 ey611 => ?_)
                        have b612 := hq_rng y610
                        refine lv_aload_n hx hb dL_law_391 rfl (lv_at hl 3 rfl) ?_
                        refine lv_iload_n hx hb dL_law_392 rfl (lv_at hl 0 rfl) ?_
                        refine lv_iconst (v := 2) hx hb dL_law_393 (by decide) ?_
                        refine lv_iadd hx hb dL_law_394 ?_
                        refine lv_topi (fun y613 ey614 => ?_)
                        obtain ⟨k615, hk616, b617, b618⟩ := hq_add (i) (2)
                        rw [← ey614] at hk616 b617 b618
                        have hk616 : (y613).toInt = (i).toInt + (2 : Int) + k615 * 4294967296 := hk616
                        obtain rfl : k615 = 0 := by omega
                        refine va_sld hx hb hX hbl hbA hZ.2.1 (hq_in (by omega) (by omega)) dL_law_395 ?_
                        refine lv_topi (fun y619 ey620 => ?_)
                        have b621 := hq_rng y619
                        refine lv_aload_n hx hb dL_law_396 rfl (lv_at hl 3 rfl) ?_
                        refine lv_iload_n hx hb dL_law_397 rfl (lv_at hl 0 rfl) ?_
                        refine lv_iconst (v := 3) hx hb dL_law_398 (by decide) ?_
                        refine lv_iadd hx hb dL_law_399 ?_
                        refine lv_topi (fun y622 ey623 => ?_)
                        obtain ⟨k624, hk625, b626, b627⟩ := hq_add (i) (3)
                        rw [← ey623] at hk625 b626 b627
                        have hk625 : (y622).toInt = (i).toInt + (3 : Int) + k624 * 4294967296 := hk625
                        obtain rfl : k624 = 0 := by omega
                        refine va_sld hx hb hX hbl hbA hZ.2.1 (hq_in (by omega) (by omega)) dL_law_400 ?_
                        refine lv_topi (fun y628 ey629 => ?_)
                        have b630 := hq_rng y628
                        refine lv_aload_n hx hb dL_law_401 rfl (lv_at hl 3 rfl) ?_
                        refine lv_iload_n hx hb dL_law_402 rfl (lv_at hl 0 rfl) ?_
                        refine lv_iconst (v := 4) hx hb dL_law_403 (by decide) ?_
                        refine lv_iadd hx hb dL_law_404 ?_
                        refine lv_topi (fun y631 ey632 => ?_)
                        obtain ⟨k633, hk634, b635, b636⟩ := hq_add (i) (4)
                        rw [← ey632] at hk634 b635 b636
                        have hk634 : (y631).toInt = (i).toInt + (4 : Int) + k633 * 4294967296 := hk634
                        obtain rfl : k633 = 0 := by omega
                        refine va_sld hx hb hX hbl hbA hZ.2.1 (hq_in (by omega) (by omega)) dL_law_405 ?_
                        refine lv_topi (fun y637 ey638 => ?_)
                        have b639 := hq_rng y637
                        refine lv_aload_n hx hb dL_law_406 rfl (lv_at hl 3 rfl) ?_
                        refine lv_iload_n hx hb dL_law_407 rfl (lv_at hl 0 rfl) ?_
                        refine lv_iconst (v := 5) hx hb dL_law_408 (by decide) ?_
                        refine lv_iadd hx hb dL_law_409 ?_
                        refine lv_topi (fun y640 ey641 => ?_)
                        obtain ⟨k642, hk643, b644, b645⟩ := hq_add (i) (5)
                        rw [← ey641] at hk643 b644 b645
                        have hk643 : (y640).toInt = (i).toInt + (5 : Int) + k642 * 4294967296 := hk643
                        obtain rfl : k642 = 0 := by omega
                        refine va_sld hx hb hX hbl hbA hZ.2.1 (hq_in (by omega) (by omega)) dL_law_410 ?_
                        refine lv_topi (fun y646 ey647 => ?_)
                        have b648 := hq_rng y646
                        have fx655 : V596 (mo) = some (.inr (13, hm_o q (m_tp) (m_sz) (m_fr) (m_bh) (m_hd) (m_ft) (m_fa) (m_le) (m_fo) (m_as) (m_fd) (m_bc) (m_bg) (m_bs) (m_be) (m_b0) (m_b1) (m_cm) (m_hc))) := (hq600.2 (mo) _ ty20 rfl).trans (ho_m)
                        refine hp_calli (hp_runV (As := [.int (y610), .int (y619), .int (y628), .int (y637), .int (y646)]) (rest := []) hx hb hml hown hts (t_X13_form l D cs B G  V596 n hP.1 q hR (mo) ty20 (y610) (y619) (y628) (y637) (y646) fx655  (by omega) (by omega) (by omega) (by omega) (by omega) (by omega) (by omega) (by omega) (hVQ.keep hR (fun x t hx hg => hq600.2 x t hx (by simp [hg])))) hZ fx655 cv_L_49 rfl rfl ⟨Nat.le_of_ble_eq_true rfl, Nat.le_of_ble_eq_true rfl⟩ rfl hl.1 rfl (Nat.le_of_ble_eq_true rfl) dL_law_411 ⟨(Nat.le_of_ble_eq_true rfl), (Nat.le_of_ble_eq_true rfl)⟩) hZ (fun r652 V649 n650 _ _ hw651 hZ => ?_)
                        obtain ⟨rfl, hq653, ⟨z656, z657, ho658, hi659, hi660⟩, hr654⟩ := hw651
                        have hP := hP.trans hq653 (by intro g h; simp_all)
                        have b661 := hq_rng z657
                        have b662 := hq_rng z656
                        have b663 := hq_rng r652
                        refine lv_pop hx hb dL_law_414 rfl ?_
                        refine lv_goto (tgt := 761) hx hb dL_law_415 (by decide) ?_
                        obtain ⟨y664, ey665⟩ : ∃ y : Int32, y = i + (6) := ⟨_, rfl⟩
                        obtain ⟨k666, hk667, b668, b669⟩ := hq_add (i) (6)
                        rw [← ey665] at hk667 b668 b669
                        have hk667 : (y664).toInt = (i).toInt + (6) + k666 * 4294967296 := hk667
                        refine lv_iinc (v := y664) (lv' := [(3, .int (y664)), (2, .ref (mo)), (1, .ref (a)), (0, .ref (b))]) hx hb dL_law_761 hl (k := 0) rfl (by rw [ey665]; rfl) (by decide) rfl (fun ls hl => ?_)
                        refine lv_goto (tgt := 18) hx hb dL_law_764 (by decide) ?_
                        have fx670 : V649 (a) = some (.inr (11, [.ref (n), .ref (n + 2), .ref (n + 5), .ref (n + 46), .ref (n + 50), .ref (n + 62), .ref (n + 87), .int (c_fs), .ref (n + 88), .ref (n + 465)])) := (hq653.2 (a) _ ty0 rfl).trans (ho602)
                        have fx671 : V649 (n + 2) = some (.inr (7, [.int (q_fk), .int (q_fp), q_tx, q_ou, .int (q_nx), .int (q_tk), .int (q_st), .ref (n + 3)])) := (hq653.2 (n + 2) _ ty3 rfl).trans ((hq600.2 (n + 2) _ ty3 rfl).trans (ho_p))
                        have fx672 : V649 (n + 50) = some (.inr (1, [.ref (n + 51), .ref (n + 52), .int (e_fd), .ref (n + 53), .ref (n + 55), .ref (n + 57), e_bk, e_an, e_mk, .int (e_sz), .ref (n + 59), .ref (n + 60), .ref (n + 61)])) := (hq653.2 (n + 50) _ ty7 rfl).trans ((hq600.2 (n + 50) _ ty7 rfl).trans (ho_e))
                        have fx673 : V649 (n) = some (.inr (9, [.ref (n + 1), .int (p_z)])) := (hq653.2 (n) _ ty1 rfl).trans ((hq600.2 (n) _ ty1 rfl).trans (ho_n))
                        have hinv9 : hk_Inv cs G a n mo q V649 := ⟨hP.1, ⟨_, _, _, fx670, Or.inl ⟨rfl, rfl⟩, by omega, hJ.keep hP.1 ty18 (fun x t hx hg => (hq_lgp hq653 hx hg (fun _ => rfl)).trans (hq_lgp hq600 hx hg (fun _ => rfl)))⟩, ⟨_, _, _, _, _, _, _, fx671⟩, ⟨_, _, _, _, _, fx672, by omega, by omega⟩, ⟨_, _, _, _, _, _, _, _, _, _, _, _, _, _, _, _, _, _, _, _, fx673, ho658, by omega, by omega, by omega, by omega, by omega, by omega, by omega, by omega, by omega⟩, (hVQ.keep hR (fun x t hx hg => (hq653.2 x t hx (by simp [hg])).trans (hq600.2 x t hx (by simp [hg])))), (by obtain ⟨fs9, h9⟩ := hst; exact ⟨fs9, ((hq653.2 _ _ (hr_19 hR) rfl).trans (hq600.2 _ _ (hr_19 hR) rfl)).trans h9⟩)⟩
                        exact ih _ (by omega) _ _ _ ls (y664) rfl hZ hinv9 (by omega) (by omega) (lv_sub hl [0, 1, 2, 3] rfl)
                      ·
                        rcases Classical.em (y14 = 8) with h674 | h674
                        · refine lv_tableIn (off := 385) (tgt := 418) hx hb dL_law_33 (by rw [h674]; decide) (by rw [h674]; decide) (by rw [h674]; decide) (by decide) ?_
                          have b675 : (y14).toInt = 8 := by rw [h674]; decide
                          refine lv_aload_n hx hb dL_law_418 rfl (lv_at hl 2 rfl) ?_
                          refine lv_aload_n hx hb dL_law_419 rfl (lv_at hl 3 rfl) ?_
                          refine lv_iload_n hx hb dL_law_420 rfl (lv_at hl 0 rfl) ?_
                          refine lv_iconst (v := 1) hx hb dL_law_421 (by decide) ?_
                          refine lv_iadd hx hb dL_law_422 ?_
                          refine lv_topi (fun y676 ey677 => ?_)
                          obtain ⟨k678, hk679, b680, b681⟩ := hq_add (i) (1)
                          rw [← ey677] at hk679 b680 b681
                          have hk679 : (y676).toInt = (i).toInt + (1 : Int) + k678 * 4294967296 := hk679
                          obtain rfl : k678 = 0 := by omega
                          refine va_sld hx hb hX hbl hbA hZ.2.1 (hq_in (by omega) (by omega)) dL_law_423 ?_
                          refine lv_topi (fun y682 ey683 => ?_)
                          have b684 := hq_rng y682
                          refine lv_aload_n hx hb dL_law_424 rfl (lv_at hl 3 rfl) ?_
                          refine lv_iload_n hx hb dL_law_425 rfl (lv_at hl 0 rfl) ?_
                          refine lv_iconst (v := 2) hx hb dL_law_426 (by decide) ?_
                          refine lv_iadd hx hb dL_law_427 ?_
                          refine lv_topi (fun y685 ey686 => ?_)
                          obtain ⟨k687, hk688, b689, b690⟩ := hq_add (i) (2)
                          rw [← ey686] at hk688 b689 b690
                          have hk688 : (y685).toInt = (i).toInt + (2 : Int) + k687 * 4294967296 := hk688
                          obtain rfl : k687 = 0 := by omega
                          refine va_sld hx hb hX hbl hbA hZ.2.1 (hq_in (by omega) (by omega)) dL_law_428 ?_
                          refine lv_topi (fun y691 ey692 => ?_)
                          have b693 := hq_rng y691
                          refine lv_aload_n hx hb dL_law_429 rfl (lv_at hl 3 rfl) ?_
                          refine lv_iload_n hx hb dL_law_430 rfl (lv_at hl 0 rfl) ?_
                          refine lv_iconst (v := 3) hx hb dL_law_431 (by decide) ?_
                          refine lv_iadd hx hb dL_law_432 ?_
                          refine lv_topi (fun y694 ey695 => ?_)
                          obtain ⟨k696, hk697, b698, b699⟩ := hq_add (i) (3)
                          rw [← ey695] at hk697 b698 b699
                          have hk697 : (y694).toInt = (i).toInt + (3 : Int) + k696 * 4294967296 := hk697
                          obtain rfl : k696 = 0 := by omega
                          refine va_sld hx hb hX hbl hbA hZ.2.1 (hq_in (by omega) (by omega)) dL_law_433 ?_
                          refine lv_topi (fun y700 ey701 => ?_)
                          have b702 := hq_rng y700
                          refine lv_aload_n hx hb dL_law_434 rfl (lv_at hl 3 rfl) ?_
                          refine lv_iload_n hx hb dL_law_435 rfl (lv_at hl 0 rfl) ?_
                          refine lv_iconst (v := 4) hx hb dL_law_436 (by decide) ?_
                          refine lv_iadd hx hb dL_law_437 ?_
                          refine lv_topi (fun y703 ey704 => ?_)
                          obtain ⟨k705, hk706, b707, b708⟩ := hq_add (i) (4)
                          rw [← ey704] at hk706 b707 b708
                          have hk706 : (y703).toInt = (i).toInt + (4 : Int) + k705 * 4294967296 := hk706
                          obtain rfl : k705 = 0 := by omega
                          refine va_sld hx hb hX hbl hbA hZ.2.1 (hq_in (by omega) (by omega)) dL_law_438 ?_
                          refine lv_topi (fun y709 ey710 => ?_)
                          have b711 := hq_rng y709
                          refine lv_aload_n hx hb dL_law_439 rfl (lv_at hl 3 rfl) ?_
                          refine lv_iload_n hx hb dL_law_440 rfl (lv_at hl 0 rfl) ?_
                          refine lv_iconst (v := 5) hx hb dL_law_441 (by decide) ?_
                          refine lv_iadd hx hb dL_law_442 ?_
                          refine lv_topi (fun y712 ey713 => ?_)
                          obtain ⟨k714, hk715, b716, b717⟩ := hq_add (i) (5)
                          rw [← ey713] at hk715 b716 b717
                          have hk715 : (y712).toInt = (i).toInt + (5 : Int) + k714 * 4294967296 := hk715
                          obtain rfl : k714 = 0 := by omega
                          refine va_sld hx hb hX hbl hbA hZ.2.1 (hq_in (by omega) (by omega)) dL_law_443 ?_
                          refine lv_topi (fun y718 ey719 => ?_)
                          have b720 := hq_rng y718
                          refine hp_calli (hp_runV (As := [.int (y682), .int (y691), .int (y700), .int (y709), .int (y718)]) (rest := []) hx hb hml hown hts (t_X11_row_0 l D cs B G  V9 n hP.1  (a) ty0 (y682) (y691) (y700) (y709) (y718) ho_a ty1 ty3 ty5 ty6 ty7 ty16 ty17 ty18 ty19 (by omega) hJ) hZ ho_a cv_L_50 rfl rfl ⟨Nat.le_of_ble_eq_true rfl, Nat.le_of_ble_eq_true rfl⟩ rfl hl.1 rfl (Nat.le_of_ble_eq_true rfl) dL_law_444 ⟨(Nat.le_of_ble_eq_true rfl), (Nat.le_of_ble_eq_true rfl)⟩) hZ (fun r724 V721 n722 _ _ hw723 hZ => ?_)
                          obtain ⟨rfl, hq725, ho727, hr726⟩ := hw723
                          have hP := hP.trans hq725 (by intro g h; simp_all)
                          have b728 := hq_rng r724
                          refine lv_pop hx hb dL_law_447 rfl ?_
                          refine lv_aload_n hx hb dL_law_448 rfl (lv_at hl 1 rfl) ?_
                          refine lv_aload_n hx hb dL_law_449 rfl (lv_at hl 3 rfl) ?_
                          refine lv_iload_n hx hb dL_law_450 rfl (lv_at hl 0 rfl) ?_
                          refine lv_iconst (v := 1) hx hb dL_law_451 (by decide) ?_
                          refine lv_iadd hx hb dL_law_452 ?_
                          refine lv_topi (fun y729 ey730 => ?_)
                          obtain ⟨k731, hk732, b733, b734⟩ := hq_add (i) (1)
                          rw [← ey730] at hk732 b733 b734
                          have hk732 : (y729).toInt = (i).toInt + (1 : Int) + k731 * 4294967296 := hk732
                          obtain rfl : k731 = 0 := by omega
                          refine va_sld hx hb hX hbl hbA hZ.2.1 (hq_in (by omega) (by omega)) dL_law_453 ?_
                          refine lv_topi (fun y735 ey736 => ?_)
                          have b737 := hq_rng y735
                          refine lv_aload_n hx hb dL_law_454 rfl (lv_at hl 3 rfl) ?_
                          refine lv_iload_n hx hb dL_law_455 rfl (lv_at hl 0 rfl) ?_
                          refine lv_iconst (v := 2) hx hb dL_law_456 (by decide) ?_
                          refine lv_iadd hx hb dL_law_457 ?_
                          refine lv_topi (fun y738 ey739 => ?_)
                          obtain ⟨k740, hk741, b742, b743⟩ := hq_add (i) (2)
                          rw [← ey739] at hk741 b742 b743
                          have hk741 : (y738).toInt = (i).toInt + (2 : Int) + k740 * 4294967296 := hk741
                          obtain rfl : k740 = 0 := by omega
                          refine va_sld hx hb hX hbl hbA hZ.2.1 (hq_in (by omega) (by omega)) dL_law_458 ?_
                          refine lv_topi (fun y744 ey745 => ?_)
                          have b746 := hq_rng y744
                          refine lv_aload_n hx hb dL_law_459 rfl (lv_at hl 3 rfl) ?_
                          refine lv_iload_n hx hb dL_law_460 rfl (lv_at hl 0 rfl) ?_
                          refine lv_iconst (v := 3) hx hb dL_law_461 (by decide) ?_
                          refine lv_iadd hx hb dL_law_462 ?_
                          refine lv_topi (fun y747 ey748 => ?_)
                          obtain ⟨k749, hk750, b751, b752⟩ := hq_add (i) (3)
                          rw [← ey748] at hk750 b751 b752
                          have hk750 : (y747).toInt = (i).toInt + (3 : Int) + k749 * 4294967296 := hk750
                          obtain rfl : k749 = 0 := by omega
                          refine va_sld hx hb hX hbl hbA hZ.2.1 (hq_in (by omega) (by omega)) dL_law_463 ?_
                          refine lv_topi (fun y753 ey754 => ?_)
                          have b755 := hq_rng y753
                          refine lv_aload_n hx hb dL_law_464 rfl (lv_at hl 3 rfl) ?_
                          refine lv_iload_n hx hb dL_law_465 rfl (lv_at hl 0 rfl) ?_
                          refine lv_iconst (v := 4) hx hb dL_law_466 (by decide) ?_
                          refine lv_iadd hx hb dL_law_467 ?_
                          refine lv_topi (fun y756 ey757 => ?_)
                          obtain ⟨k758, hk759, b760, b761⟩ := hq_add (i) (4)
                          rw [← ey757] at hk759 b760 b761
                          have hk759 : (y756).toInt = (i).toInt + (4 : Int) + k758 * 4294967296 := hk759
                          obtain rfl : k758 = 0 := by omega
                          refine va_sld hx hb hX hbl hbA hZ.2.1 (hq_in (by omega) (by omega)) dL_law_468 ?_
                          refine lv_topi (fun y762 ey763 => ?_)
                          have b764 := hq_rng y762
                          refine lv_aload_n hx hb dL_law_469 rfl (lv_at hl 3 rfl) ?_
                          refine lv_iload_n hx hb dL_law_470 rfl (lv_at hl 0 rfl) ?_
                          refine lv_iconst (v := 5) hx hb dL_law_471 (by decide) ?_
                          refine lv_iadd hx hb dL_law_472 ?_
                          refine lv_topi (fun y765 ey766 => ?_)
                          obtain ⟨k767, hk768, b769, b770⟩ := hq_add (i) (5)
                          rw [← ey766] at hk768 b769 b770
                          have hk768 : (y765).toInt = (i).toInt + (5 : Int) + k767 * 4294967296 := hk768
                          obtain rfl : k767 = 0 := by omega
                          refine va_sld hx hb hX hbl hbA hZ.2.1 (hq_in (by omega) (by omega)) dL_law_473 ?_
                          refine lv_topi (fun y771 ey772 => ?_)
                          have b773 := hq_rng y771
                          have fx780 : V721 (mo) = some (.inr (13, hm_o q (m_tp) (m_sz) (m_fr) (m_bh) (m_hd) (m_ft) (m_fa) (m_le) (m_fo) (m_as) (m_fd) (m_bc) (m_bg) (m_bs) (m_be) (m_b0) (m_b1) (m_cm) (m_hc))) := (hq725.2 (mo) _ ty20 rfl).trans (ho_m)
                          refine hp_calli (hp_runV (As := [.int (y735), .int (y744), .int (y753), .int (y762), .int (y771)]) (rest := []) hx hb hml hown hts (t_X13_row l D cs B G  V721 n hP.1 q hR (mo) ty20 (y735) (y744) (y753) (y762) (y771) fx780  (by omega) (by omega) (by omega) (by omega) (by omega) (by omega) (by omega) (by omega) (hVQ.keep hR (fun x t hx hg => hq725.2 x t hx (by simp [hg])))) hZ fx780 cv_L_53 rfl rfl ⟨Nat.le_of_ble_eq_true rfl, Nat.le_of_ble_eq_true rfl⟩ rfl hl.1 rfl (Nat.le_of_ble_eq_true rfl) dL_law_474 ⟨(Nat.le_of_ble_eq_true rfl), (Nat.le_of_ble_eq_true rfl)⟩) hZ (fun r777 V774 n775 _ _ hw776 hZ => ?_)
                          obtain ⟨rfl, hq778, ⟨z781, z782, ho783, hi784, hi785⟩, hr779⟩ := hw776
                          have hP := hP.trans hq778 (by intro g h; simp_all)
                          have b786 := hq_rng z782
                          have b787 := hq_rng z781
                          have b788 := hq_rng r777
                          refine lv_pop hx hb dL_law_477 rfl ?_
                          refine lv_goto (tgt := 761) hx hb dL_law_478 (by decide) ?_
                          obtain ⟨y789, ey790⟩ : ∃ y : Int32, y = i + (6) := ⟨_, rfl⟩
                          obtain ⟨k791, hk792, b793, b794⟩ := hq_add (i) (6)
                          rw [← ey790] at hk792 b793 b794
                          have hk792 : (y789).toInt = (i).toInt + (6) + k791 * 4294967296 := hk792
                          refine lv_iinc (v := y789) (lv' := [(3, .int (y789)), (2, .ref (mo)), (1, .ref (a)), (0, .ref (b))]) hx hb dL_law_761 hl (k := 0) rfl (by rw [ey790]; rfl) (by decide) rfl (fun ls hl => ?_)
                          refine lv_goto (tgt := 18) hx hb dL_law_764 (by decide) ?_
                          have fx795 : V774 (a) = some (.inr (11, [.ref (n), .ref (n + 2), .ref (n + 5), .ref (n + 46), .ref (n + 50), .ref (n + 62), .ref (n + 87), .int (c_fs), .ref (n + 88), .ref (n + 465)])) := (hq778.2 (a) _ ty0 rfl).trans (ho727)
                          have fx796 : V774 (n + 2) = some (.inr (7, [.int (q_fk), .int (q_fp), q_tx, q_ou, .int (q_nx), .int (q_tk), .int (q_st), .ref (n + 3)])) := (hq778.2 (n + 2) _ ty3 rfl).trans ((hq725.2 (n + 2) _ ty3 rfl).trans (ho_p))
                          have fx797 : V774 (n + 50) = some (.inr (1, [.ref (n + 51), .ref (n + 52), .int (e_fd), .ref (n + 53), .ref (n + 55), .ref (n + 57), e_bk, e_an, e_mk, .int (e_sz), .ref (n + 59), .ref (n + 60), .ref (n + 61)])) := (hq778.2 (n + 50) _ ty7 rfl).trans ((hq725.2 (n + 50) _ ty7 rfl).trans (ho_e))
                          have fx798 : V774 (n) = some (.inr (9, [.ref (n + 1), .int (p_z)])) := (hq778.2 (n) _ ty1 rfl).trans ((hq725.2 (n) _ ty1 rfl).trans (ho_n))
                          have hinv9 : hk_Inv cs G a n mo q V774 := ⟨hP.1, ⟨_, _, _, fx795, Or.inl ⟨rfl, rfl⟩, by omega, hJ.keep hP.1 ty18 (fun x t hx hg => (hq_lgp hq778 hx hg (fun _ => rfl)).trans (hq_lgp hq725 hx hg (fun _ => rfl)))⟩, ⟨_, _, _, _, _, _, _, fx796⟩, ⟨_, _, _, _, _, fx797, by omega, by omega⟩, ⟨_, _, _, _, _, _, _, _, _, _, _, _, _, _, _, _, _, _, _, _, fx798, ho783, by omega, by omega, by omega, by omega, by omega, by omega, by omega, by omega, by omega⟩, (hVQ.keep hR (fun x t hx hg => (hq778.2 x t hx (by simp [hg])).trans (hq725.2 x t hx (by simp [hg])))), (by obtain ⟨fs9, h9⟩ := hst; exact ⟨fs9, ((hq778.2 _ _ (hr_19 hR) rfl).trans (hq725.2 _ _ (hr_19 hR) rfl)).trans h9⟩)⟩
                          exact ih _ (by omega) _ _ _ ls (y789) rfl hZ hinv9 (by omega) (by omega) (lv_sub hl [0, 1, 2, 3] rfl)
                        ·
                          rcases Classical.em (y14 = 9) with h799 | h799
                          · refine lv_tableIn (off := 448) (tgt := 481) hx hb dL_law_33 (by rw [h799]; decide) (by rw [h799]; decide) (by rw [h799]; decide) (by decide) ?_
                            have b800 : (y14).toInt = 9 := by rw [h799]; decide
                            refine lv_aload_n hx hb dL_law_481 rfl (lv_at hl 2 rfl) ?_
                            refine lv_aload_n hx hb dL_law_482 rfl (lv_at hl 3 rfl) ?_
                            refine lv_iload_n hx hb dL_law_483 rfl (lv_at hl 0 rfl) ?_
                            refine lv_iconst (v := 1) hx hb dL_law_484 (by decide) ?_
                            refine lv_iadd hx hb dL_law_485 ?_
                            refine lv_topi (fun y801 ey802 => ?_)
                            obtain ⟨k803, hk804, b805, b806⟩ := hq_add (i) (1)
                            rw [← ey802] at hk804 b805 b806
                            have hk804 : (y801).toInt = (i).toInt + (1 : Int) + k803 * 4294967296 := hk804
                            obtain rfl : k803 = 0 := by omega
                            refine va_sld hx hb hX hbl hbA hZ.2.1 (hq_in (by omega) (by omega)) dL_law_486 ?_
                            refine lv_topi (fun y807 ey808 => ?_)
                            have b809 := hq_rng y807
                            refine lv_aload_n hx hb dL_law_487 rfl (lv_at hl 3 rfl) ?_
                            refine lv_iload_n hx hb dL_law_488 rfl (lv_at hl 0 rfl) ?_
                            refine lv_iconst (v := 2) hx hb dL_law_489 (by decide) ?_
                            refine lv_iadd hx hb dL_law_490 ?_
                            refine lv_topi (fun y810 ey811 => ?_)
                            obtain ⟨k812, hk813, b814, b815⟩ := hq_add (i) (2)
                            rw [← ey811] at hk813 b814 b815
                            have hk813 : (y810).toInt = (i).toInt + (2 : Int) + k812 * 4294967296 := hk813
                            obtain rfl : k812 = 0 := by omega
                            refine va_sld hx hb hX hbl hbA hZ.2.1 (hq_in (by omega) (by omega)) dL_law_491 ?_
                            refine lv_topi (fun y816 ey817 => ?_)
                            have b818 := hq_rng y816
                            refine lv_aload_n hx hb dL_law_492 rfl (lv_at hl 3 rfl) ?_
                            refine lv_iload_n hx hb dL_law_493 rfl (lv_at hl 0 rfl) ?_
                            refine lv_iconst (v := 3) hx hb dL_law_494 (by decide) ?_
                            refine lv_iadd hx hb dL_law_495 ?_
                            refine lv_topi (fun y819 ey820 => ?_)
                            obtain ⟨k821, hk822, b823, b824⟩ := hq_add (i) (3)
                            rw [← ey820] at hk822 b823 b824
                            have hk822 : (y819).toInt = (i).toInt + (3 : Int) + k821 * 4294967296 := hk822
                            obtain rfl : k821 = 0 := by omega
                            refine va_sld hx hb hX hbl hbA hZ.2.1 (hq_in (by omega) (by omega)) dL_law_496 ?_
                            refine lv_topi (fun y825 ey826 => ?_)
                            have b827 := hq_rng y825
                            refine hp_calli (hp_runV (As := [.int (y807), .int (y816), .int (y825)]) (rest := []) hx hb hml hown hts (t_X11_rivals_0 l D cs B G  V9 n hP.1  (a) ty0 (y807) (y816) (y825) ho_a ty1 ty3 ty5 ty6 ty7 ty16 ty17 ty18 ty19 (by omega) ) hZ ho_a cv_L_54 rfl rfl ⟨Nat.le_of_ble_eq_true rfl, Nat.le_of_ble_eq_true rfl⟩ rfl hl.1 rfl (Nat.le_of_ble_eq_true rfl) dL_law_497 ⟨(Nat.le_of_ble_eq_true rfl), (Nat.le_of_ble_eq_true rfl)⟩) hZ (fun r831 V828 n829 _ _ hw830 hZ => ?_)
                            obtain ⟨rfl, hq832, ho834, hr833⟩ := hw830
                            have hP := hP.trans hq832 (fun _ _ => rfl)
                            have b835 := hq_rng r831
                            refine lv_pop hx hb dL_law_500 rfl ?_
                            refine lv_aload_n hx hb dL_law_501 rfl (lv_at hl 1 rfl) ?_
                            refine lv_aload_n hx hb dL_law_502 rfl (lv_at hl 3 rfl) ?_
                            refine lv_iload_n hx hb dL_law_503 rfl (lv_at hl 0 rfl) ?_
                            refine lv_iconst (v := 1) hx hb dL_law_504 (by decide) ?_
                            refine lv_iadd hx hb dL_law_505 ?_
                            refine lv_topi (fun y836 ey837 => ?_)
                            obtain ⟨k838, hk839, b840, b841⟩ := hq_add (i) (1)
                            rw [← ey837] at hk839 b840 b841
                            have hk839 : (y836).toInt = (i).toInt + (1 : Int) + k838 * 4294967296 := hk839
                            obtain rfl : k838 = 0 := by omega
                            refine va_sld hx hb hX hbl hbA hZ.2.1 (hq_in (by omega) (by omega)) dL_law_506 ?_
                            refine lv_topi (fun y842 ey843 => ?_)
                            have b844 := hq_rng y842
                            refine lv_aload_n hx hb dL_law_507 rfl (lv_at hl 3 rfl) ?_
                            refine lv_iload_n hx hb dL_law_508 rfl (lv_at hl 0 rfl) ?_
                            refine lv_iconst (v := 2) hx hb dL_law_509 (by decide) ?_
                            refine lv_iadd hx hb dL_law_510 ?_
                            refine lv_topi (fun y845 ey846 => ?_)
                            obtain ⟨k847, hk848, b849, b850⟩ := hq_add (i) (2)
                            rw [← ey846] at hk848 b849 b850
                            have hk848 : (y845).toInt = (i).toInt + (2 : Int) + k847 * 4294967296 := hk848
                            obtain rfl : k847 = 0 := by omega
                            refine va_sld hx hb hX hbl hbA hZ.2.1 (hq_in (by omega) (by omega)) dL_law_511 ?_
                            refine lv_topi (fun y851 ey852 => ?_)
                            have b853 := hq_rng y851
                            refine lv_aload_n hx hb dL_law_512 rfl (lv_at hl 3 rfl) ?_
                            refine lv_iload_n hx hb dL_law_513 rfl (lv_at hl 0 rfl) ?_
                            refine lv_iconst (v := 3) hx hb dL_law_514 (by decide) ?_
                            refine lv_iadd hx hb dL_law_515 ?_
                            refine lv_topi (fun y854 ey855 => ?_)
                            obtain ⟨k856, hk857, b858, b859⟩ := hq_add (i) (3)
                            rw [← ey855] at hk857 b858 b859
                            have hk857 : (y854).toInt = (i).toInt + (3 : Int) + k856 * 4294967296 := hk857
                            obtain rfl : k856 = 0 := by omega
                            refine va_sld hx hb hX hbl hbA hZ.2.1 (hq_in (by omega) (by omega)) dL_law_516 ?_
                            refine lv_topi (fun y860 ey861 => ?_)
                            have b862 := hq_rng y860
                            have fx869 : V828 (mo) = some (.inr (13, hm_o q (m_tp) (m_sz) (m_fr) (m_bh) (m_hd) (m_ft) (m_fa) (m_le) (m_fo) (m_as) (m_fd) (m_bc) (m_bg) (m_bs) (m_be) (m_b0) (m_b1) (m_cm) (m_hc))) := (hq832.2 (mo) _ ty20 rfl).trans (ho_m)
                            refine hp_calli (hp_runV (As := [.int (y842), .int (y851), .int (y860)]) (rest := []) hx hb hml hown hts (t_X13_rivals l D cs B G  V828 n hP.1 q hR (mo) ty20 (y842) (y851) (y860) fx869  (by omega) (by omega) (by omega) (by omega) (by omega) (by omega) (by omega) (by omega) ) hZ fx869 cv_L_57 rfl rfl ⟨Nat.le_of_ble_eq_true rfl, Nat.le_of_ble_eq_true rfl⟩ rfl hl.1 rfl (Nat.le_of_ble_eq_true rfl) dL_law_517 ⟨(Nat.le_of_ble_eq_true rfl), (Nat.le_of_ble_eq_true rfl)⟩) hZ (fun r866 V863 n864 _ _ hw865 hZ => ?_)
                            obtain ⟨rfl, hq867, ho870, hr868⟩ := hw865
                            have hP := hP.trans hq867 (fun _ _ => rfl)
                            have b871 := hq_rng r866
                            refine lv_pop hx hb dL_law_520 rfl ?_
                            refine lv_goto (tgt := 761) hx hb dL_law_521 (by decide) ?_
                            obtain ⟨y872, ey873⟩ : ∃ y : Int32, y = i + (6) := ⟨_, rfl⟩
                            obtain ⟨k874, hk875, b876, b877⟩ := hq_add (i) (6)
                            rw [← ey873] at hk875 b876 b877
                            have hk875 : (y872).toInt = (i).toInt + (6) + k874 * 4294967296 := hk875
                            refine lv_iinc (v := y872) (lv' := [(3, .int (y872)), (2, .ref (mo)), (1, .ref (a)), (0, .ref (b))]) hx hb dL_law_761 hl (k := 0) rfl (by rw [ey873]; rfl) (by decide) rfl (fun ls hl => ?_)
                            refine lv_goto (tgt := 18) hx hb dL_law_764 (by decide) ?_
                            have fx878 : V863 (a) = some (.inr (11, [.ref (n), .ref (n + 2), .ref (n + 5), .ref (n + 46), .ref (n + 50), .ref (n + 62), .ref (n + 87), .int (c_fs), .ref (n + 88), .ref (n + 465)])) := (hq867.2 (a) _ ty0 rfl).trans (ho834)
                            have fx879 : V863 (n + 2) = some (.inr (7, [.int (q_fk), .int (q_fp), q_tx, q_ou, .int (q_nx), .int (q_tk), .int (q_st), .ref (n + 3)])) := (hq867.2 (n + 2) _ ty3 rfl).trans ((hq832.2 (n + 2) _ ty3 rfl).trans (ho_p))
                            have fx880 : V863 (n + 50) = some (.inr (1, [.ref (n + 51), .ref (n + 52), .int (e_fd), .ref (n + 53), .ref (n + 55), .ref (n + 57), e_bk, e_an, e_mk, .int (e_sz), .ref (n + 59), .ref (n + 60), .ref (n + 61)])) := (hq867.2 (n + 50) _ ty7 rfl).trans ((hq832.2 (n + 50) _ ty7 rfl).trans (ho_e))
                            have fx881 : V863 (n) = some (.inr (9, [.ref (n + 1), .int (p_z)])) := (hq867.2 (n) _ ty1 rfl).trans ((hq832.2 (n) _ ty1 rfl).trans (ho_n))
                            have hinv9 : hk_Inv cs G a n mo q V863 := ⟨hP.1, ⟨_, _, _, fx878, Or.inl ⟨rfl, rfl⟩, by omega, hJ.keep hP.1 ty18 (fun x t hx hg => (hq_lgp hq867 hx hg (fun _ => rfl)).trans (hq_lgp hq832 hx hg (fun _ => rfl)))⟩, ⟨_, _, _, _, _, _, _, fx879⟩, ⟨_, _, _, _, _, fx880, by omega, by omega⟩, ⟨_, _, _, _, _, _, _, _, _, _, _, _, _, _, _, _, _, _, _, _, fx881, ho870, by omega, by omega, by omega, by omega, by omega, by omega, by omega, by omega, by omega⟩, (hVQ.keep hR (fun x t hx hg => (hq867.2 x t hx (by simp [hg])).trans (hq832.2 x t hx (by simp [hg])))), (by obtain ⟨fs9, h9⟩ := hst; exact ⟨fs9, ((hq867.2 _ _ (hr_19 hR) rfl).trans (hq832.2 _ _ (hr_19 hR) rfl)).trans h9⟩)⟩
                            exact ih _ (by omega) _ _ _ ls (y872) rfl hZ hinv9 (by omega) (by omega) (lv_sub hl [0, 1, 2, 3] rfl)
                          ·
                            rcases Classical.em (y14 = 10) with h882 | h882
                            · refine lv_tableIn (off := 491) (tgt := 524) hx hb dL_law_33 (by rw [h882]; decide) (by rw [h882]; decide) (by rw [h882]; decide) (by decide) ?_
                              have b883 : (y14).toInt = 10 := by rw [h882]; decide
                              refine lv_aload_n hx hb dL_law_524 rfl (lv_at hl 2 rfl) ?_
                              refine hp_calli (hp_runV (As := []) (rest := []) hx hb hml hown hts (t_X11_read_0 l D cs B G  V9 n hP.1  (a) ty0 ho_a ty1 ty3 ty5 ty6 ty7 ty16 ty17 ty18 ty19 (by omega) ho_n ty2 (by omega) hJ) hZ ho_a cv_L_58 rfl rfl ⟨Nat.le_of_ble_eq_true rfl, Nat.le_of_ble_eq_true rfl⟩ rfl hl.1 rfl (Nat.le_of_ble_eq_true rfl) dL_law_525 ⟨(Nat.le_of_ble_eq_true rfl), (Nat.le_of_ble_eq_true rfl)⟩) hZ (fun r887 V884 n885 _ _ hw886 hZ => ?_)
                              obtain ⟨rfl, hq888, ⟨z890, ho891, hi892⟩, ⟨z893, ho894, hi895, hi896⟩, hr889⟩ := hw886
                              have hP := hP.trans hq888 (by intro g h; simp_all)
                              have b897 := hq_rng z890
                              have b898 := hq_rng z893
                              have b899 := hq_rng r887
                              refine lv_pop hx hb dL_law_528 rfl ?_
                              refine lv_aload_n hx hb dL_law_529 rfl (lv_at hl 1 rfl) ?_
                              have fx906 : V884 (mo) = some (.inr (13, hm_o q (m_tp) (m_sz) (m_fr) (m_bh) (m_hd) (m_ft) (m_fa) (m_le) (m_fo) (m_as) (m_fd) (m_bc) (m_bg) (m_bs) (m_be) (m_b0) (m_b1) (m_cm) (m_hc))) := (hq888.2 (mo) _ ty20 rfl).trans (ho_m)
                              refine hp_calli (hp_runV (As := []) (rest := []) hx hb hml hown hts (t_X13_read l D cs B G  V884 n hP.1 q hR (mo) ty20 fx906  (by omega) (by omega) (by omega) (by omega) (by omega) (by omega) (by omega) (by omega) (hVQ.keep hR (fun x t hx hg => hq888.2 x t hx (by simp [hg])))) hZ fx906 cv_L_61 rfl rfl ⟨Nat.le_of_ble_eq_true rfl, Nat.le_of_ble_eq_true rfl⟩ rfl hl.1 rfl (Nat.le_of_ble_eq_true rfl) dL_law_530 ⟨(Nat.le_of_ble_eq_true rfl), (Nat.le_of_ble_eq_true rfl)⟩) hZ (fun r903 V900 n901 _ _ hw902 hZ => ?_)
                              obtain ⟨rfl, hq904, ⟨z907, z908, z909, z910, z911, ho912, hi913, hi914, hi915, hi916, hi917, hi918⟩, hr905⟩ := hw902
                              have hP := hP.trans hq904 (by intro g h; simp_all)
                              have b919 := hq_rng z907
                              have b920 := hq_rng z910
                              have b921 := hq_rng z909
                              have b922 := hq_rng z908
                              have b923 := hq_rng z911
                              have b924 := hq_rng r903
                              refine lv_pop hx hb dL_law_533 rfl ?_
                              refine lv_goto (tgt := 761) hx hb dL_law_534 (by decide) ?_
                              obtain ⟨y925, ey926⟩ : ∃ y : Int32, y = i + (6) := ⟨_, rfl⟩
                              obtain ⟨k927, hk928, b929, b930⟩ := hq_add (i) (6)
                              rw [← ey926] at hk928 b929 b930
                              have hk928 : (y925).toInt = (i).toInt + (6) + k927 * 4294967296 := hk928
                              refine lv_iinc (v := y925) (lv' := [(3, .int (y925)), (2, .ref (mo)), (1, .ref (a)), (0, .ref (b))]) hx hb dL_law_761 hl (k := 0) rfl (by rw [ey926]; rfl) (by decide) rfl (fun ls hl => ?_)
                              refine lv_goto (tgt := 18) hx hb dL_law_764 (by decide) ?_
                              have fx931 : V900 (a) = some (.inr (11, [.ref (n), .ref (n + 2), .ref (n + 5), .ref (n + 46), .ref (n + 50), .ref (n + 62), .ref (n + 87), .int (z890), .ref (n + 88), .ref (n + 465)])) := (hq904.2 (a) _ ty0 rfl).trans (ho891)
                              have fx932 : V900 (n + 2) = some (.inr (7, [.int (q_fk), .int (q_fp), q_tx, q_ou, .int (q_nx), .int (q_tk), .int (q_st), .ref (n + 3)])) := (hq904.2 (n + 2) _ ty3 rfl).trans ((hq888.2 (n + 2) _ ty3 rfl).trans (ho_p))
                              have fx933 : V900 (n + 50) = some (.inr (1, [.ref (n + 51), .ref (n + 52), .int (e_fd), .ref (n + 53), .ref (n + 55), .ref (n + 57), e_bk, e_an, e_mk, .int (e_sz), .ref (n + 59), .ref (n + 60), .ref (n + 61)])) := (hq904.2 (n + 50) _ ty7 rfl).trans ((hq888.2 (n + 50) _ ty7 rfl).trans (ho_e))
                              have fx934 : V900 (n) = some (.inr (9, [.ref (n + 1), .int (z893)])) := (hq904.2 (n) _ ty1 rfl).trans (ho894)
                              have hinv9 : hk_Inv cs G a n mo q V900 := ⟨hP.1, ⟨_, _, _, fx931, Or.inl ⟨rfl, rfl⟩, by omega, hJ.keep hP.1 ty18 (fun x t hx hg => (hq_lgp hq904 hx hg (fun _ => rfl)).trans (hq_lgp hq888 hx hg (fun _ => rfl)))⟩, ⟨_, _, _, _, _, _, _, fx932⟩, ⟨_, _, _, _, _, fx933, by omega, by omega⟩, ⟨_, _, _, _, _, _, _, _, _, _, _, _, _, _, _, _, _, _, _, _, fx934, ho912, by omega, by omega, by omega, by omega, by omega, by omega, by omega, by omega, by omega⟩, (hVQ.keep hR (fun x t hx hg => (hq904.2 x t hx (by simp [hg])).trans (hq888.2 x t hx (by simp [hg])))), (by obtain ⟨fs9, h9⟩ := hst; exact ⟨fs9, ((hq904.2 _ _ (hr_19 hR) rfl).trans (hq888.2 _ _ (hr_19 hR) rfl)).trans h9⟩)⟩
                              exact ih _ (by omega) _ _ _ ls (y925) rfl hZ hinv9 (by omega) (by omega) (lv_sub hl [0, 1, 2, 3] rfl)
                            ·
                              rcases Classical.em (y14 = 11) with h935 | h935
                              · refine lv_tableIn (off := 504) (tgt := 537) hx hb dL_law_33 (by rw [h935]; decide) (by rw [h935]; decide) (by rw [h935]; decide) (by decide) ?_
                                have b936 : (y14).toInt = 11 := by rw [h935]; decide
                                refine lv_aload_n hx hb dL_law_537 rfl (lv_at hl 2 rfl) ?_
                                refine lv_aload_n hx hb dL_law_538 rfl (lv_at hl 3 rfl) ?_
                                refine lv_iload_n hx hb dL_law_539 rfl (lv_at hl 0 rfl) ?_
                                refine lv_iconst (v := 1) hx hb dL_law_540 (by decide) ?_
                                refine lv_iadd hx hb dL_law_541 ?_
                                refine lv_topi (fun y937 ey938 => ?_)
                                obtain ⟨k939, hk940, b941, b942⟩ := hq_add (i) (1)
                                rw [← ey938] at hk940 b941 b942
                                have hk940 : (y937).toInt = (i).toInt + (1 : Int) + k939 * 4294967296 := hk940
                                obtain rfl : k939 = 0 := by omega
                                refine va_sld hx hb hX hbl hbA hZ.2.1 (hq_in (by omega) (by omega)) dL_law_542 ?_
                                refine lv_topi (fun y943 ey944 => ?_)
                                have b945 := hq_rng y943
                                refine lv_aload_n hx hb dL_law_543 rfl (lv_at hl 3 rfl) ?_
                                refine lv_iload_n hx hb dL_law_544 rfl (lv_at hl 0 rfl) ?_
                                refine lv_iconst (v := 2) hx hb dL_law_545 (by decide) ?_
                                refine lv_iadd hx hb dL_law_546 ?_
                                refine lv_topi (fun y946 ey947 => ?_)
                                obtain ⟨k948, hk949, b950, b951⟩ := hq_add (i) (2)
                                rw [← ey947] at hk949 b950 b951
                                have hk949 : (y946).toInt = (i).toInt + (2 : Int) + k948 * 4294967296 := hk949
                                obtain rfl : k948 = 0 := by omega
                                refine va_sld hx hb hX hbl hbA hZ.2.1 (hq_in (by omega) (by omega)) dL_law_547 ?_
                                refine lv_topi (fun y952 ey953 => ?_)
                                have b954 := hq_rng y952
                                refine hp_calli (hp_runV (As := [.int (y943), .int (y952)]) (rest := []) hx hb hml hown hts (t_X11_place_0 l D cs B G  V9 n hP.1  (a) ty0 (y943) (y952) ho_a ty1 ty3 ty5 ty6 ty7 ty16 ty17 ty18 ty19 (by omega) ) hZ ho_a cv_L_62 rfl rfl ⟨Nat.le_of_ble_eq_true rfl, Nat.le_of_ble_eq_true rfl⟩ rfl hl.1 rfl (Nat.le_of_ble_eq_true rfl) dL_law_548 ⟨(Nat.le_of_ble_eq_true rfl), (Nat.le_of_ble_eq_true rfl)⟩) hZ (fun r958 V955 n956 _ _ hw957 hZ => ?_)
                                obtain ⟨rfl, hq959, ho961, hr960⟩ := hw957
                                have hP := hP.trans hq959 (fun _ _ => rfl)
                                have b962 := hq_rng r958
                                refine lv_pop hx hb dL_law_551 rfl ?_
                                refine lv_aload_n hx hb dL_law_552 rfl (lv_at hl 1 rfl) ?_
                                refine lv_aload_n hx hb dL_law_553 rfl (lv_at hl 3 rfl) ?_
                                refine lv_iload_n hx hb dL_law_554 rfl (lv_at hl 0 rfl) ?_
                                refine lv_iconst (v := 1) hx hb dL_law_555 (by decide) ?_
                                refine lv_iadd hx hb dL_law_556 ?_
                                refine lv_topi (fun y963 ey964 => ?_)
                                obtain ⟨k965, hk966, b967, b968⟩ := hq_add (i) (1)
                                rw [← ey964] at hk966 b967 b968
                                have hk966 : (y963).toInt = (i).toInt + (1 : Int) + k965 * 4294967296 := hk966
                                obtain rfl : k965 = 0 := by omega
                                refine va_sld hx hb hX hbl hbA hZ.2.1 (hq_in (by omega) (by omega)) dL_law_557 ?_
                                refine lv_topi (fun y969 ey970 => ?_)
                                have b971 := hq_rng y969
                                refine lv_aload_n hx hb dL_law_558 rfl (lv_at hl 3 rfl) ?_
                                refine lv_iload_n hx hb dL_law_559 rfl (lv_at hl 0 rfl) ?_
                                refine lv_iconst (v := 2) hx hb dL_law_560 (by decide) ?_
                                refine lv_iadd hx hb dL_law_561 ?_
                                refine lv_topi (fun y972 ey973 => ?_)
                                obtain ⟨k974, hk975, b976, b977⟩ := hq_add (i) (2)
                                rw [← ey973] at hk975 b976 b977
                                have hk975 : (y972).toInt = (i).toInt + (2 : Int) + k974 * 4294967296 := hk975
                                obtain rfl : k974 = 0 := by omega
                                refine va_sld hx hb hX hbl hbA hZ.2.1 (hq_in (by omega) (by omega)) dL_law_562 ?_
                                refine lv_topi (fun y978 ey979 => ?_)
                                have b980 := hq_rng y978
                                have fx987 : V955 (mo) = some (.inr (13, hm_o q (m_tp) (m_sz) (m_fr) (m_bh) (m_hd) (m_ft) (m_fa) (m_le) (m_fo) (m_as) (m_fd) (m_bc) (m_bg) (m_bs) (m_be) (m_b0) (m_b1) (m_cm) (m_hc))) := (hq959.2 (mo) _ ty20 rfl).trans (ho_m)
                                refine hp_calli (hp_runV (As := [.int (y969), .int (y978)]) (rest := []) hx hb hml hown hts (t_X13_place l D cs B G  V955 n hP.1 q hR (mo) ty20 (y969) (y978) fx987  (by omega) (by omega) (by omega) (by omega) (by omega) (by omega) (by omega) (by omega) ) hZ fx987 cv_L_65 rfl rfl ⟨Nat.le_of_ble_eq_true rfl, Nat.le_of_ble_eq_true rfl⟩ rfl hl.1 rfl (Nat.le_of_ble_eq_true rfl) dL_law_563 ⟨(Nat.le_of_ble_eq_true rfl), (Nat.le_of_ble_eq_true rfl)⟩) hZ (fun r984 V981 n982 _ _ hw983 hZ => ?_)
                                obtain ⟨rfl, hq985, ho988, hr986⟩ := hw983
                                have hP := hP.trans hq985 (fun _ _ => rfl)
                                have b989 := hq_rng r984
                                refine lv_pop hx hb dL_law_566 rfl ?_
                                refine lv_goto (tgt := 761) hx hb dL_law_567 (by decide) ?_
                                obtain ⟨y990, ey991⟩ : ∃ y : Int32, y = i + (6) := ⟨_, rfl⟩
                                obtain ⟨k992, hk993, b994, b995⟩ := hq_add (i) (6)
                                rw [← ey991] at hk993 b994 b995
                                have hk993 : (y990).toInt = (i).toInt + (6) + k992 * 4294967296 := hk993
                                refine lv_iinc (v := y990) (lv' := [(3, .int (y990)), (2, .ref (mo)), (1, .ref (a)), (0, .ref (b))]) hx hb dL_law_761 hl (k := 0) rfl (by rw [ey991]; rfl) (by decide) rfl (fun ls hl => ?_)
                                refine lv_goto (tgt := 18) hx hb dL_law_764 (by decide) ?_
                                have fx996 : V981 (a) = some (.inr (11, [.ref (n), .ref (n + 2), .ref (n + 5), .ref (n + 46), .ref (n + 50), .ref (n + 62), .ref (n + 87), .int (c_fs), .ref (n + 88), .ref (n + 465)])) := (hq985.2 (a) _ ty0 rfl).trans (ho961)
                                have fx997 : V981 (n + 2) = some (.inr (7, [.int (q_fk), .int (q_fp), q_tx, q_ou, .int (q_nx), .int (q_tk), .int (q_st), .ref (n + 3)])) := (hq985.2 (n + 2) _ ty3 rfl).trans ((hq959.2 (n + 2) _ ty3 rfl).trans (ho_p))
                                have fx998 : V981 (n + 50) = some (.inr (1, [.ref (n + 51), .ref (n + 52), .int (e_fd), .ref (n + 53), .ref (n + 55), .ref (n + 57), e_bk, e_an, e_mk, .int (e_sz), .ref (n + 59), .ref (n + 60), .ref (n + 61)])) := (hq985.2 (n + 50) _ ty7 rfl).trans ((hq959.2 (n + 50) _ ty7 rfl).trans (ho_e))
                                have fx999 : V981 (n) = some (.inr (9, [.ref (n + 1), .int (p_z)])) := (hq985.2 (n) _ ty1 rfl).trans ((hq959.2 (n) _ ty1 rfl).trans (ho_n))
                                have hinv9 : hk_Inv cs G a n mo q V981 := ⟨hP.1, ⟨_, _, _, fx996, Or.inl ⟨rfl, rfl⟩, by omega, hJ.keep hP.1 ty18 (fun x t hx hg => (hq_lgp hq985 hx hg (fun _ => rfl)).trans (hq_lgp hq959 hx hg (fun _ => rfl)))⟩, ⟨_, _, _, _, _, _, _, fx997⟩, ⟨_, _, _, _, _, fx998, by omega, by omega⟩, ⟨_, _, _, _, _, _, _, _, _, _, _, _, _, _, _, _, _, _, _, _, fx999, ho988, by omega, by omega, by omega, by omega, by omega, by omega, by omega, by omega, by omega⟩, (hVQ.keep hR (fun x t hx hg => (hq985.2 x t hx (by simp [hg])).trans (hq959.2 x t hx (by simp [hg])))), (by obtain ⟨fs9, h9⟩ := hst; exact ⟨fs9, ((hq985.2 _ _ (hr_19 hR) rfl).trans (hq959.2 _ _ (hr_19 hR) rfl)).trans h9⟩)⟩
                                exact ih _ (by omega) _ _ _ ls (y990) rfl hZ hinv9 (by omega) (by omega) (lv_sub hl [0, 1, 2, 3] rfl)
                              ·
                                rcases Classical.em (y14 = 12) with h1000 | h1000
                                · refine lv_tableIn (off := 537) (tgt := 570) hx hb dL_law_33 (by rw [h1000]; decide) (by rw [h1000]; decide) (by rw [h1000]; decide) (by decide) ?_
                                  have b1001 : (y14).toInt = 12 := by rw [h1000]; decide
                                  refine lv_aload_n hx hb dL_law_570 rfl (lv_at hl 2 rfl) ?_
                                  refine hp_calli (hp_runV (As := []) (rest := []) hx hb hml hown hts (t_X11_unused_0 l D cs B G  V9 n hP.1  (a) ty0 ho_a ty1 ty3 ty5 ty6 ty7 ty16 ty17 ty18 ty19 (by omega) hJ) hZ ho_a cv_L_66 rfl rfl ⟨Nat.le_of_ble_eq_true rfl, Nat.le_of_ble_eq_true rfl⟩ rfl hl.1 rfl (Nat.le_of_ble_eq_true rfl) dL_law_571 ⟨(Nat.le_of_ble_eq_true rfl), (Nat.le_of_ble_eq_true rfl)⟩) hZ (fun r1005 V1002 n1003 _ _ hw1004 hZ => ?_)
                                  obtain ⟨rfl, hq1006, ho1008, hr1007⟩ := hw1004
                                  have hP := hP.trans hq1006 (by intro g h; simp_all)
                                  have b1009 := hq_rng r1005
                                  refine lv_pop hx hb dL_law_574 rfl ?_
                                  refine lv_aload_n hx hb dL_law_575 rfl (lv_at hl 1 rfl) ?_
                                  have fx1016 : V1002 (mo) = some (.inr (13, hm_o q (m_tp) (m_sz) (m_fr) (m_bh) (m_hd) (m_ft) (m_fa) (m_le) (m_fo) (m_as) (m_fd) (m_bc) (m_bg) (m_bs) (m_be) (m_b0) (m_b1) (m_cm) (m_hc))) := (hq1006.2 (mo) _ ty20 rfl).trans (ho_m)
                                  refine hp_calli (hp_runV (As := []) (rest := []) hx hb hml hown hts (t_X13_unused l D cs B G  V1002 n hP.1 q hR (mo) ty20 fx1016  (by omega) (by omega) (by omega) (by omega) (by omega) (by omega) (by omega) (by omega) (hVQ.keep hR (fun x t hx hg => hq1006.2 x t hx (by simp [hg])))) hZ fx1016 cv_L_69 rfl rfl ⟨Nat.le_of_ble_eq_true rfl, Nat.le_of_ble_eq_true rfl⟩ rfl hl.1 rfl (Nat.le_of_ble_eq_true rfl) dL_law_576 ⟨(Nat.le_of_ble_eq_true rfl), (Nat.le_of_ble_eq_true rfl)⟩) hZ (fun r1013 V1010 n1011 _ _ hw1012 hZ => ?_)
                                  obtain ⟨rfl, hq1014, ⟨z1017, z1018, ho1019, hi1020, hi1021⟩, hr1015⟩ := hw1012
                                  have hP := hP.trans hq1014 (by intro g h; simp_all)
                                  have b1022 := hq_rng z1018
                                  have b1023 := hq_rng z1017
                                  have b1024 := hq_rng r1013
                                  refine lv_pop hx hb dL_law_579 rfl ?_
                                  refine lv_goto (tgt := 761) hx hb dL_law_580 (by decide) ?_
                                  obtain ⟨y1025, ey1026⟩ : ∃ y : Int32, y = i + (6) := ⟨_, rfl⟩
                                  obtain ⟨k1027, hk1028, b1029, b1030⟩ := hq_add (i) (6)
                                  rw [← ey1026] at hk1028 b1029 b1030
                                  have hk1028 : (y1025).toInt = (i).toInt + (6) + k1027 * 4294967296 := hk1028
                                  refine lv_iinc (v := y1025) (lv' := [(3, .int (y1025)), (2, .ref (mo)), (1, .ref (a)), (0, .ref (b))]) hx hb dL_law_761 hl (k := 0) rfl (by rw [ey1026]; rfl) (by decide) rfl (fun ls hl => ?_)
                                  refine lv_goto (tgt := 18) hx hb dL_law_764 (by decide) ?_
                                  have fx1031 : V1010 (a) = some (.inr (11, [.ref (n), .ref (n + 2), .ref (n + 5), .ref (n + 46), .ref (n + 50), .ref (n + 62), .ref (n + 87), .int (c_fs), .ref (n + 88), .ref (n + 465)])) := (hq1014.2 (a) _ ty0 rfl).trans (ho1008)
                                  have fx1032 : V1010 (n + 2) = some (.inr (7, [.int (q_fk), .int (q_fp), q_tx, q_ou, .int (q_nx), .int (q_tk), .int (q_st), .ref (n + 3)])) := (hq1014.2 (n + 2) _ ty3 rfl).trans ((hq1006.2 (n + 2) _ ty3 rfl).trans (ho_p))
                                  have fx1033 : V1010 (n + 50) = some (.inr (1, [.ref (n + 51), .ref (n + 52), .int (e_fd), .ref (n + 53), .ref (n + 55), .ref (n + 57), e_bk, e_an, e_mk, .int (e_sz), .ref (n + 59), .ref (n + 60), .ref (n + 61)])) := (hq1014.2 (n + 50) _ ty7 rfl).trans ((hq1006.2 (n + 50) _ ty7 rfl).trans (ho_e))
                                  have fx1034 : V1010 (n) = some (.inr (9, [.ref (n + 1), .int (p_z)])) := (hq1014.2 (n) _ ty1 rfl).trans ((hq1006.2 (n) _ ty1 rfl).trans (ho_n))
                                  have hinv9 : hk_Inv cs G a n mo q V1010 := ⟨hP.1, ⟨_, _, _, fx1031, Or.inl ⟨rfl, rfl⟩, by omega, hJ.keep hP.1 ty18 (fun x t hx hg => (hq_lgp hq1014 hx hg (fun _ => rfl)).trans (hq_lgp hq1006 hx hg (fun _ => rfl)))⟩, ⟨_, _, _, _, _, _, _, fx1032⟩, ⟨_, _, _, _, _, fx1033, by omega, by omega⟩, ⟨_, _, _, _, _, _, _, _, _, _, _, _, _, _, _, _, _, _, _, _, fx1034, ho1019, by omega, by omega, by omega, by omega, by omega, by omega, by omega, by omega, by omega⟩, (hVQ.keep hR (fun x t hx hg => (hq1014.2 x t hx (by simp [hg])).trans (hq1006.2 x t hx (by simp [hg])))), (by obtain ⟨fs9, h9⟩ := hst; exact ⟨fs9, ((hq1014.2 _ _ (hr_19 hR) rfl).trans (hq1006.2 _ _ (hr_19 hR) rfl)).trans h9⟩)⟩
                                  exact ih _ (by omega) _ _ _ ls (y1025) rfl hZ hinv9 (by omega) (by omega) (lv_sub hl [0, 1, 2, 3] rfl)
                                ·
                                  rcases Classical.em (y14 = 13) with h1035 | h1035
                                  · refine lv_tableIn (off := 550) (tgt := 583) hx hb dL_law_33 (by rw [h1035]; decide) (by rw [h1035]; decide) (by rw [h1035]; decide) (by decide) ?_
                                    have b1036 : (y14).toInt = 13 := by rw [h1035]; decide
                                    refine lv_aload_n hx hb dL_law_583 rfl (lv_at hl 2 rfl) ?_
                                    refine lv_aload_n hx hb dL_law_584 rfl (lv_at hl 3 rfl) ?_
                                    refine lv_iload_n hx hb dL_law_585 rfl (lv_at hl 0 rfl) ?_
                                    refine lv_iconst (v := 1) hx hb dL_law_586 (by decide) ?_
                                    refine lv_iadd hx hb dL_law_587 ?_
                                    refine lv_topi (fun y1037 ey1038 => ?_)
                                    obtain ⟨k1039, hk1040, b1041, b1042⟩ := hq_add (i) (1)
                                    rw [← ey1038] at hk1040 b1041 b1042
                                    have hk1040 : (y1037).toInt = (i).toInt + (1 : Int) + k1039 * 4294967296 := hk1040
                                    obtain rfl : k1039 = 0 := by omega
                                    refine va_sld hx hb hX hbl hbA hZ.2.1 (hq_in (by omega) (by omega)) dL_law_588 ?_
                                    refine lv_topi (fun y1043 ey1044 => ?_)
                                    have b1045 := hq_rng y1043
                                    refine hp_calli (hp_runV (As := [.int (y1043)]) (rest := []) hx hb hml hown hts (t_X11_users_0 l D cs B G  V9 n hP.1  (a) ty0 (y1043) ho_a ty1 ty3 ty5 ty6 ty7 ty16 ty17 ty18 ty19 (by omega) hJ) hZ ho_a cv_L_70 rfl rfl ⟨Nat.le_of_ble_eq_true rfl, Nat.le_of_ble_eq_true rfl⟩ rfl hl.1 rfl (Nat.le_of_ble_eq_true rfl) dL_law_589 ⟨(Nat.le_of_ble_eq_true rfl), (Nat.le_of_ble_eq_true rfl)⟩) hZ (fun r1049 V1046 n1047 _ _ hw1048 hZ => ?_)
                                    obtain ⟨rfl, hq1050, ho1052, hr1051⟩ := hw1048
                                    have hP := hP.trans hq1050 (by intro g h; simp_all)
                                    have b1053 := hq_rng r1049
                                    refine lv_pop hx hb dL_law_592 rfl ?_
                                    refine lv_aload_n hx hb dL_law_593 rfl (lv_at hl 1 rfl) ?_
                                    refine lv_aload_n hx hb dL_law_594 rfl (lv_at hl 3 rfl) ?_
                                    refine lv_iload_n hx hb dL_law_595 rfl (lv_at hl 0 rfl) ?_
                                    refine lv_iconst (v := 1) hx hb dL_law_596 (by decide) ?_
                                    refine lv_iadd hx hb dL_law_597 ?_
                                    refine lv_topi (fun y1054 ey1055 => ?_)
                                    obtain ⟨k1056, hk1057, b1058, b1059⟩ := hq_add (i) (1)
                                    rw [← ey1055] at hk1057 b1058 b1059
                                    have hk1057 : (y1054).toInt = (i).toInt + (1 : Int) + k1056 * 4294967296 := hk1057
                                    obtain rfl : k1056 = 0 := by omega
                                    refine va_sld hx hb hX hbl hbA hZ.2.1 (hq_in (by omega) (by omega)) dL_law_598 ?_
                                    refine lv_topi (fun y1060 ey1061 => ?_)
                                    have b1062 := hq_rng y1060
                                    have fx1069 : V1046 (mo) = some (.inr (13, hm_o q (m_tp) (m_sz) (m_fr) (m_bh) (m_hd) (m_ft) (m_fa) (m_le) (m_fo) (m_as) (m_fd) (m_bc) (m_bg) (m_bs) (m_be) (m_b0) (m_b1) (m_cm) (m_hc))) := (hq1050.2 (mo) _ ty20 rfl).trans (ho_m)
                                    refine hp_calli (hp_runV (As := [.int (y1060)]) (rest := []) hx hb hml hown hts (t_X13_users l D cs B G  V1046 n hP.1 q hR (mo) ty20 (y1060) fx1069  (by omega) (by omega) (by omega) (by omega) (by omega) (by omega) (by omega) (by omega) (hVQ.keep hR (fun x t hx hg => hq1050.2 x t hx (by simp [hg])))) hZ fx1069 cv_L_73 rfl rfl ⟨Nat.le_of_ble_eq_true rfl, Nat.le_of_ble_eq_true rfl⟩ rfl hl.1 rfl (Nat.le_of_ble_eq_true rfl) dL_law_599 ⟨(Nat.le_of_ble_eq_true rfl), (Nat.le_of_ble_eq_true rfl)⟩) hZ (fun r1066 V1063 n1064 _ _ hw1065 hZ => ?_)
                                    obtain ⟨rfl, hq1067, ⟨z1070, z1071, ho1072, hi1073, hi1074⟩, hr1068⟩ := hw1065
                                    have hP := hP.trans hq1067 (by intro g h; simp_all)
                                    have b1075 := hq_rng z1071
                                    have b1076 := hq_rng z1070
                                    have b1077 := hq_rng r1066
                                    refine lv_pop hx hb dL_law_602 rfl ?_
                                    refine lv_goto (tgt := 761) hx hb dL_law_603 (by decide) ?_
                                    obtain ⟨y1078, ey1079⟩ : ∃ y : Int32, y = i + (6) := ⟨_, rfl⟩
                                    obtain ⟨k1080, hk1081, b1082, b1083⟩ := hq_add (i) (6)
                                    rw [← ey1079] at hk1081 b1082 b1083
                                    have hk1081 : (y1078).toInt = (i).toInt + (6) + k1080 * 4294967296 := hk1081
                                    refine lv_iinc (v := y1078) (lv' := [(3, .int (y1078)), (2, .ref (mo)), (1, .ref (a)), (0, .ref (b))]) hx hb dL_law_761 hl (k := 0) rfl (by rw [ey1079]; rfl) (by decide) rfl (fun ls hl => ?_)
                                    refine lv_goto (tgt := 18) hx hb dL_law_764 (by decide) ?_
                                    have fx1084 : V1063 (a) = some (.inr (11, [.ref (n), .ref (n + 2), .ref (n + 5), .ref (n + 46), .ref (n + 50), .ref (n + 62), .ref (n + 87), .int (c_fs), .ref (n + 88), .ref (n + 465)])) := (hq1067.2 (a) _ ty0 rfl).trans (ho1052)
                                    have fx1085 : V1063 (n + 2) = some (.inr (7, [.int (q_fk), .int (q_fp), q_tx, q_ou, .int (q_nx), .int (q_tk), .int (q_st), .ref (n + 3)])) := (hq1067.2 (n + 2) _ ty3 rfl).trans ((hq1050.2 (n + 2) _ ty3 rfl).trans (ho_p))
                                    have fx1086 : V1063 (n + 50) = some (.inr (1, [.ref (n + 51), .ref (n + 52), .int (e_fd), .ref (n + 53), .ref (n + 55), .ref (n + 57), e_bk, e_an, e_mk, .int (e_sz), .ref (n + 59), .ref (n + 60), .ref (n + 61)])) := (hq1067.2 (n + 50) _ ty7 rfl).trans ((hq1050.2 (n + 50) _ ty7 rfl).trans (ho_e))
                                    have fx1087 : V1063 (n) = some (.inr (9, [.ref (n + 1), .int (p_z)])) := (hq1067.2 (n) _ ty1 rfl).trans ((hq1050.2 (n) _ ty1 rfl).trans (ho_n))
                                    have hinv9 : hk_Inv cs G a n mo q V1063 := ⟨hP.1, ⟨_, _, _, fx1084, Or.inl ⟨rfl, rfl⟩, by omega, hJ.keep hP.1 ty18 (fun x t hx hg => (hq_lgp hq1067 hx hg (fun _ => rfl)).trans (hq_lgp hq1050 hx hg (fun _ => rfl)))⟩, ⟨_, _, _, _, _, _, _, fx1085⟩, ⟨_, _, _, _, _, fx1086, by omega, by omega⟩, ⟨_, _, _, _, _, _, _, _, _, _, _, _, _, _, _, _, _, _, _, _, fx1087, ho1072, by omega, by omega, by omega, by omega, by omega, by omega, by omega, by omega, by omega⟩, (hVQ.keep hR (fun x t hx hg => (hq1067.2 x t hx (by simp [hg])).trans (hq1050.2 x t hx (by simp [hg])))), (by obtain ⟨fs9, h9⟩ := hst; exact ⟨fs9, ((hq1067.2 _ _ (hr_19 hR) rfl).trans (hq1050.2 _ _ (hr_19 hR) rfl)).trans h9⟩)⟩
                                    exact ih _ (by omega) _ _ _ ls (y1078) rfl hZ hinv9 (by omega) (by omega) (lv_sub hl [0, 1, 2, 3] rfl)
                                  ·
                                    rcases Classical.em (y14 = 14) with h1088 | h1088
                                    · refine lv_tableIn (off := 573) (tgt := 606) hx hb dL_law_33 (by rw [h1088]; decide) (by rw [h1088]; decide) (by rw [h1088]; decide) (by decide) ?_
                                      have b1089 : (y14).toInt = 14 := by rw [h1088]; decide
                                      refine lv_aload_n hx hb dL_law_606 rfl (lv_at hl 2 rfl) ?_
                                      refine lv_aload_n hx hb dL_law_607 rfl (lv_at hl 3 rfl) ?_
                                      refine lv_iload_n hx hb dL_law_608 rfl (lv_at hl 0 rfl) ?_
                                      refine lv_iconst (v := 1) hx hb dL_law_609 (by decide) ?_
                                      refine lv_iadd hx hb dL_law_610 ?_
                                      refine lv_topi (fun y1090 ey1091 => ?_)
                                      obtain ⟨k1092, hk1093, b1094, b1095⟩ := hq_add (i) (1)
                                      rw [← ey1091] at hk1093 b1094 b1095
                                      have hk1093 : (y1090).toInt = (i).toInt + (1 : Int) + k1092 * 4294967296 := hk1093
                                      obtain rfl : k1092 = 0 := by omega
                                      refine va_sld hx hb hX hbl hbA hZ.2.1 (hq_in (by omega) (by omega)) dL_law_611 ?_
                                      refine lv_topi (fun y1096 ey1097 => ?_)
                                      have b1098 := hq_rng y1096
                                      refine lv_aload_n hx hb dL_law_612 rfl (lv_at hl 3 rfl) ?_
                                      refine lv_iload_n hx hb dL_law_613 rfl (lv_at hl 0 rfl) ?_
                                      refine lv_iconst (v := 2) hx hb dL_law_614 (by decide) ?_
                                      refine lv_iadd hx hb dL_law_615 ?_
                                      refine lv_topi (fun y1099 ey1100 => ?_)
                                      obtain ⟨k1101, hk1102, b1103, b1104⟩ := hq_add (i) (2)
                                      rw [← ey1100] at hk1102 b1103 b1104
                                      have hk1102 : (y1099).toInt = (i).toInt + (2 : Int) + k1101 * 4294967296 := hk1102
                                      obtain rfl : k1101 = 0 := by omega
                                      refine va_sld hx hb hX hbl hbA hZ.2.1 (hq_in (by omega) (by omega)) dL_law_616 ?_
                                      refine lv_topi (fun y1105 ey1106 => ?_)
                                      have b1107 := hq_rng y1105
                                      refine lv_aload_n hx hb dL_law_617 rfl (lv_at hl 3 rfl) ?_
                                      refine lv_iload_n hx hb dL_law_618 rfl (lv_at hl 0 rfl) ?_
                                      refine lv_iconst (v := 3) hx hb dL_law_619 (by decide) ?_
                                      refine lv_iadd hx hb dL_law_620 ?_
                                      refine lv_topi (fun y1108 ey1109 => ?_)
                                      obtain ⟨k1110, hk1111, b1112, b1113⟩ := hq_add (i) (3)
                                      rw [← ey1109] at hk1111 b1112 b1113
                                      have hk1111 : (y1108).toInt = (i).toInt + (3 : Int) + k1110 * 4294967296 := hk1111
                                      obtain rfl : k1110 = 0 := by omega
                                      refine va_sld hx hb hX hbl hbA hZ.2.1 (hq_in (by omega) (by omega)) dL_law_621 ?_
                                      refine lv_topi (fun y1114 ey1115 => ?_)
                                      have b1116 := hq_rng y1114
                                      refine lv_aload_n hx hb dL_law_622 rfl (lv_at hl 3 rfl) ?_
                                      refine lv_iload_n hx hb dL_law_623 rfl (lv_at hl 0 rfl) ?_
                                      refine lv_iconst (v := 4) hx hb dL_law_624 (by decide) ?_
                                      refine lv_iadd hx hb dL_law_625 ?_
                                      refine lv_topi (fun y1117 ey1118 => ?_)
                                      obtain ⟨k1119, hk1120, b1121, b1122⟩ := hq_add (i) (4)
                                      rw [← ey1118] at hk1120 b1121 b1122
                                      have hk1120 : (y1117).toInt = (i).toInt + (4 : Int) + k1119 * 4294967296 := hk1120
                                      obtain rfl : k1119 = 0 := by omega
                                      refine va_sld hx hb hX hbl hbA hZ.2.1 (hq_in (by omega) (by omega)) dL_law_626 ?_
                                      refine lv_topi (fun y1123 ey1124 => ?_)
                                      have b1125 := hq_rng y1123
                                      refine hp_calli (hp_runV (As := [.int (y1096), .int (y1105), .int (y1114), .int (y1123)]) (rest := []) hx hb hml hown hts (t_X11_answer_0 l D cs B G  V9 n hP.1  (a) ty0 (y1096) (y1105) (y1114) (y1123) ho_a ty1 ty3 ty5 ty6 ty7 ty16 ty17 ty18 ty19 (by omega) ho_n ty2 (by omega) ho_e ty8 ty9 ty10 ty11 ty12 ty13 ty14 ty15 (by omega) (by omega) hJ) hZ ho_a cv_L_74 rfl rfl ⟨Nat.le_of_ble_eq_true rfl, Nat.le_of_ble_eq_true rfl⟩ rfl hl.1 rfl (Nat.le_of_ble_eq_true rfl) dL_law_627 ⟨(Nat.le_of_ble_eq_true rfl), (Nat.le_of_ble_eq_true rfl)⟩) hZ (fun r1129 V1126 n1127 _ _ hw1128 hZ => ?_)
                                      obtain ⟨rfl, hq1130, ho1132, ⟨z1133, ho1134, hi1135, hi1136⟩, ⟨v1137, v1138, v1139, z1140, z1141, ho1142, hi1143, hi1144⟩, hr1131⟩ := hw1128
                                      have hP := hP.trans hq1130 (by intro g h; simp_all)
                                      have b1145 := hq_rng z1133
                                      have b1146 := hq_rng z1140
                                      have b1147 := hq_rng z1141
                                      have b1148 := hq_rng r1129
                                      refine lv_pop hx hb dL_law_630 rfl ?_
                                      refine lv_aload_n hx hb dL_law_631 rfl (lv_at hl 1 rfl) ?_
                                      refine lv_aload_n hx hb dL_law_632 rfl (lv_at hl 3 rfl) ?_
                                      refine lv_iload_n hx hb dL_law_633 rfl (lv_at hl 0 rfl) ?_
                                      refine lv_iconst (v := 1) hx hb dL_law_634 (by decide) ?_
                                      refine lv_iadd hx hb dL_law_635 ?_
                                      refine lv_topi (fun y1149 ey1150 => ?_)
                                      obtain ⟨k1151, hk1152, b1153, b1154⟩ := hq_add (i) (1)
                                      rw [← ey1150] at hk1152 b1153 b1154
                                      have hk1152 : (y1149).toInt = (i).toInt + (1 : Int) + k1151 * 4294967296 := hk1152
                                      obtain rfl : k1151 = 0 := by omega
                                      refine va_sld hx hb hX hbl hbA hZ.2.1 (hq_in (by omega) (by omega)) dL_law_636 ?_
                                      refine lv_topi (fun y1155 ey1156 => ?_)
                                      have b1157 := hq_rng y1155
                                      refine lv_aload_n hx hb dL_law_637 rfl (lv_at hl 3 rfl) ?_
                                      refine lv_iload_n hx hb dL_law_638 rfl (lv_at hl 0 rfl) ?_
                                      refine lv_iconst (v := 2) hx hb dL_law_639 (by decide) ?_
                                      refine lv_iadd hx hb dL_law_640 ?_
                                      refine lv_topi (fun y1158 ey1159 => ?_)
                                      obtain ⟨k1160, hk1161, b1162, b1163⟩ := hq_add (i) (2)
                                      rw [← ey1159] at hk1161 b1162 b1163
                                      have hk1161 : (y1158).toInt = (i).toInt + (2 : Int) + k1160 * 4294967296 := hk1161
                                      obtain rfl : k1160 = 0 := by omega
                                      refine va_sld hx hb hX hbl hbA hZ.2.1 (hq_in (by omega) (by omega)) dL_law_641 ?_
                                      refine lv_topi (fun y1164 ey1165 => ?_)
                                      have b1166 := hq_rng y1164
                                      refine lv_aload_n hx hb dL_law_642 rfl (lv_at hl 3 rfl) ?_
                                      refine lv_iload_n hx hb dL_law_643 rfl (lv_at hl 0 rfl) ?_
                                      refine lv_iconst (v := 3) hx hb dL_law_644 (by decide) ?_
                                      refine lv_iadd hx hb dL_law_645 ?_
                                      refine lv_topi (fun y1167 ey1168 => ?_)
                                      obtain ⟨k1169, hk1170, b1171, b1172⟩ := hq_add (i) (3)
                                      rw [← ey1168] at hk1170 b1171 b1172
                                      have hk1170 : (y1167).toInt = (i).toInt + (3 : Int) + k1169 * 4294967296 := hk1170
                                      obtain rfl : k1169 = 0 := by omega
                                      refine va_sld hx hb hX hbl hbA hZ.2.1 (hq_in (by omega) (by omega)) dL_law_646 ?_
                                      refine lv_topi (fun y1173 ey1174 => ?_)
                                      have b1175 := hq_rng y1173
                                      refine lv_aload_n hx hb dL_law_647 rfl (lv_at hl 3 rfl) ?_
                                      refine lv_iload_n hx hb dL_law_648 rfl (lv_at hl 0 rfl) ?_
                                      refine lv_iconst (v := 4) hx hb dL_law_649 (by decide) ?_
                                      refine lv_iadd hx hb dL_law_650 ?_
                                      refine lv_topi (fun y1176 ey1177 => ?_)
                                      obtain ⟨k1178, hk1179, b1180, b1181⟩ := hq_add (i) (4)
                                      rw [← ey1177] at hk1179 b1180 b1181
                                      have hk1179 : (y1176).toInt = (i).toInt + (4 : Int) + k1178 * 4294967296 := hk1179
                                      obtain rfl : k1178 = 0 := by omega
                                      refine va_sld hx hb hX hbl hbA hZ.2.1 (hq_in (by omega) (by omega)) dL_law_651 ?_
                                      refine lv_topi (fun y1182 ey1183 => ?_)
                                      have b1184 := hq_rng y1182
                                      have fx1191 : V1126 (mo) = some (.inr (13, hm_o q (m_tp) (m_sz) (m_fr) (m_bh) (m_hd) (m_ft) (m_fa) (m_le) (m_fo) (m_as) (m_fd) (m_bc) (m_bg) (m_bs) (m_be) (m_b0) (m_b1) (m_cm) (m_hc))) := (hq1130.2 (mo) _ ty20 rfl).trans (ho_m)
                                      refine hp_calli (hp_runV (As := [.int (y1155), .int (y1164), .int (y1173), .int (y1182)]) (rest := []) hx hb hml hown hts (t_X13_answer l D cs B G  V1126 n hP.1 q hR (mo) ty20 (y1155) (y1164) (y1173) (y1182) fx1191  (by omega) (by omega) (by omega) (by omega) (by omega) (by omega) (by omega) (by omega) (hVQ.keep hR (fun x t hx hg => hq1130.2 x t hx (by simp [hg])))) hZ fx1191 cv_L_78 rfl rfl ⟨Nat.le_of_ble_eq_true rfl, Nat.le_of_ble_eq_true rfl⟩ rfl hl.1 rfl (Nat.le_of_ble_eq_true rfl) dL_law_652 ⟨(Nat.le_of_ble_eq_true rfl), (Nat.le_of_ble_eq_true rfl)⟩) hZ (fun r1188 V1185 n1186 _ _ hw1187 hZ => ?_)
                                      obtain ⟨rfl, hq1189, ⟨z1192, z1193, z1194, z1195, z1196, z1197, z1198, z1199, z1200, z1201, z1202, z1203, ho1204, hi1205, hi1206, hi1207, hi1208, hi1209, hi1210, hi1211⟩, hr1190⟩ := hw1187
                                      have hP := hP.trans hq1189 (by intro g h; simp_all)
                                      have b1212 := hq_rng z1192
                                      have b1213 := hq_rng z1197
                                      have b1214 := hq_rng z1194
                                      have b1215 := hq_rng z1193
                                      have b1216 := hq_rng z1198
                                      have b1217 := hq_rng z1199
                                      have b1218 := hq_rng z1200
                                      have b1219 := hq_rng z1201
                                      have b1220 := hq_rng z1202
                                      have b1221 := hq_rng z1203
                                      have b1222 := hq_rng z1195
                                      have b1223 := hq_rng z1196
                                      have b1224 := hq_rng r1188
                                      refine lv_pop hx hb dL_law_655 rfl ?_
                                      refine lv_goto (tgt := 761) hx hb dL_law_656 (by decide) ?_
                                      obtain ⟨y1225, ey1226⟩ : ∃ y : Int32, y = i + (6) := ⟨_, rfl⟩
                                      obtain ⟨k1227, hk1228, b1229, b1230⟩ := hq_add (i) (6)
                                      rw [← ey1226] at hk1228 b1229 b1230
                                      have hk1228 : (y1225).toInt = (i).toInt + (6) + k1227 * 4294967296 := hk1228
                                      refine lv_iinc (v := y1225) (lv' := [(3, .int (y1225)), (2, .ref (mo)), (1, .ref (a)), (0, .ref (b))]) hx hb dL_law_761 hl (k := 0) rfl (by rw [ey1226]; rfl) (by decide) rfl (fun ls hl => ?_)
                                      refine lv_goto (tgt := 18) hx hb dL_law_764 (by decide) ?_
                                      have fx1231 : V1185 (a) = some (.inr (11, [.ref (n), .ref (n + 2), .ref (n + 5), .ref (n + 46), .ref (n + 50), .ref (n + 62), .ref (n + 87), .int (c_fs), .ref (n + 88), .ref (n + 465)])) := (hq1189.2 (a) _ ty0 rfl).trans (ho1132)
                                      have fx1232 : V1185 (n + 2) = some (.inr (7, [.int (q_fk), .int (q_fp), q_tx, q_ou, .int (q_nx), .int (q_tk), .int (q_st), .ref (n + 3)])) := (hq1189.2 (n + 2) _ ty3 rfl).trans ((hq1130.2 (n + 2) _ ty3 rfl).trans (ho_p))
                                      have fx1233 : V1185 (n + 50) = some (.inr (1, [.ref (n + 51), .ref (n + 52), .int (z1140), .ref (n + 53), .ref (n + 55), .ref (n + 57), v1137, v1138, v1139, .int (z1141), .ref (n + 59), .ref (n + 60), .ref (n + 61)])) := (hq1189.2 (n + 50) _ ty7 rfl).trans (ho1142)
                                      have fx1234 : V1185 (n) = some (.inr (9, [.ref (n + 1), .int (z1133)])) := (hq1189.2 (n) _ ty1 rfl).trans (ho1134)
                                      have hinv9 : hk_Inv cs G a n mo q V1185 := ⟨hP.1, ⟨_, _, _, fx1231, Or.inl ⟨rfl, rfl⟩, by omega, hJ.keep hP.1 ty18 (fun x t hx hg => (hq_lgp hq1189 hx hg (fun _ => rfl)).trans (hq_lgp hq1130 hx hg (fun _ => rfl)))⟩, ⟨_, _, _, _, _, _, _, fx1232⟩, ⟨_, _, _, _, _, fx1233, by omega, by omega⟩, ⟨_, _, _, _, _, _, _, _, _, _, _, _, _, _, _, _, _, _, _, _, fx1234, ho1204, by omega, by omega, by omega, by omega, by omega, by omega, by omega, by omega, by omega⟩, (hVQ.keep hR (fun x t hx hg => (hq1189.2 x t hx (by simp [hg])).trans (hq1130.2 x t hx (by simp [hg])))), (by obtain ⟨fs9, h9⟩ := hst; exact ⟨fs9, ((hq1189.2 _ _ (hr_19 hR) rfl).trans (hq1130.2 _ _ (hr_19 hR) rfl)).trans h9⟩)⟩
                                      exact ih _ (by omega) _ _ _ ls (y1225) rfl hZ hinv9 (by omega) (by omega) (lv_sub hl [0, 1, 2, 3] rfl)
                                    ·
                                      rcases Classical.em (y14 = 15) with h1235 | h1235
                                      · refine lv_tableIn (off := 626) (tgt := 659) hx hb dL_law_33 (by rw [h1235]; decide) (by rw [h1235]; decide) (by rw [h1235]; decide) (by decide) ?_
                                        have b1236 : (y14).toInt = 15 := by rw [h1235]; decide
                                        refine lv_aload_n hx hb dL_law_659 rfl (lv_at hl 2 rfl) ?_
                                        refine lv_aload_n hx hb dL_law_660 rfl (lv_at hl 3 rfl) ?_
                                        refine lv_iload_n hx hb dL_law_661 rfl (lv_at hl 0 rfl) ?_
                                        refine lv_iconst (v := 1) hx hb dL_law_662 (by decide) ?_
                                        refine lv_iadd hx hb dL_law_663 ?_
                                        refine lv_topi (fun y1237 ey1238 => ?_)
                                        obtain ⟨k1239, hk1240, b1241, b1242⟩ := hq_add (i) (1)
                                        rw [← ey1238] at hk1240 b1241 b1242
                                        have hk1240 : (y1237).toInt = (i).toInt + (1 : Int) + k1239 * 4294967296 := hk1240
                                        obtain rfl : k1239 = 0 := by omega
                                        refine va_sld hx hb hX hbl hbA hZ.2.1 (hq_in (by omega) (by omega)) dL_law_664 ?_
                                        refine lv_topi (fun y1243 ey1244 => ?_)
                                        have b1245 := hq_rng y1243
                                        refine hp_calli (hp_runV (As := [.int (y1243)]) (rest := []) hx hb hml hown hts (t_X11_change_0 l D cs B G  V9 n hP.1  (a) ty0 (y1243) ho_a ty1 ty3 ty5 ty6 ty7 ty16 ty17 ty18 ty19 (by omega) ho_e ty8 ty9 ty10 ty11 ty12 ty13 ty14 ty15 (by omega) (by omega) ) hZ ho_a cv_L_79 rfl rfl ⟨Nat.le_of_ble_eq_true rfl, Nat.le_of_ble_eq_true rfl⟩ rfl hl.1 rfl (Nat.le_of_ble_eq_true rfl) dL_law_665 ⟨(Nat.le_of_ble_eq_true rfl), (Nat.le_of_ble_eq_true rfl)⟩) hZ (fun r1249 V1246 n1247 _ _ hw1248 hZ => ?_)
                                        obtain ⟨rfl, hq1250, ho1252, ho1253, hr1251⟩ := hw1248
                                        have hP := hP.trans hq1250 (fun _ _ => rfl)
                                        have b1254 := hq_rng r1249
                                        refine lv_pop hx hb dL_law_668 rfl ?_
                                        refine lv_aload_n hx hb dL_law_669 rfl (lv_at hl 1 rfl) ?_
                                        refine lv_aload_n hx hb dL_law_670 rfl (lv_at hl 3 rfl) ?_
                                        refine lv_iload_n hx hb dL_law_671 rfl (lv_at hl 0 rfl) ?_
                                        refine lv_iconst (v := 1) hx hb dL_law_672 (by decide) ?_
                                        refine lv_iadd hx hb dL_law_673 ?_
                                        refine lv_topi (fun y1255 ey1256 => ?_)
                                        obtain ⟨k1257, hk1258, b1259, b1260⟩ := hq_add (i) (1)
                                        rw [← ey1256] at hk1258 b1259 b1260
                                        have hk1258 : (y1255).toInt = (i).toInt + (1 : Int) + k1257 * 4294967296 := hk1258
                                        obtain rfl : k1257 = 0 := by omega
                                        refine va_sld hx hb hX hbl hbA hZ.2.1 (hq_in (by omega) (by omega)) dL_law_674 ?_
                                        refine lv_topi (fun y1261 ey1262 => ?_)
                                        have b1263 := hq_rng y1261
                                        have fx1270 : V1246 (mo) = some (.inr (13, hm_o q (m_tp) (m_sz) (m_fr) (m_bh) (m_hd) (m_ft) (m_fa) (m_le) (m_fo) (m_as) (m_fd) (m_bc) (m_bg) (m_bs) (m_be) (m_b0) (m_b1) (m_cm) (m_hc))) := (hq1250.2 (mo) _ ty20 rfl).trans (ho_m)
                                        refine hp_calli (hp_runV (As := [.int (y1261)]) (rest := []) hx hb hml hown hts (t_X13_change l D cs B G  V1246 n hP.1 q hR (mo) ty20 (y1261) fx1270  (by omega) (by omega) (by omega) (by omega) (by omega) (by omega) (by omega) (by omega) ) hZ fx1270 cv_L_82 rfl rfl ⟨Nat.le_of_ble_eq_true rfl, Nat.le_of_ble_eq_true rfl⟩ rfl hl.1 rfl (Nat.le_of_ble_eq_true rfl) dL_law_675 ⟨(Nat.le_of_ble_eq_true rfl), (Nat.le_of_ble_eq_true rfl)⟩) hZ (fun r1267 V1264 n1265 _ _ hw1266 hZ => ?_)
                                        obtain ⟨rfl, hq1268, ho1271, hr1269⟩ := hw1266
                                        have hP := hP.trans hq1268 (fun _ _ => rfl)
                                        have b1272 := hq_rng r1267
                                        refine lv_pop hx hb dL_law_678 rfl ?_
                                        refine lv_goto (tgt := 761) hx hb dL_law_679 (by decide) ?_
                                        obtain ⟨y1273, ey1274⟩ : ∃ y : Int32, y = i + (6) := ⟨_, rfl⟩
                                        obtain ⟨k1275, hk1276, b1277, b1278⟩ := hq_add (i) (6)
                                        rw [← ey1274] at hk1276 b1277 b1278
                                        have hk1276 : (y1273).toInt = (i).toInt + (6) + k1275 * 4294967296 := hk1276
                                        refine lv_iinc (v := y1273) (lv' := [(3, .int (y1273)), (2, .ref (mo)), (1, .ref (a)), (0, .ref (b))]) hx hb dL_law_761 hl (k := 0) rfl (by rw [ey1274]; rfl) (by decide) rfl (fun ls hl => ?_)
                                        refine lv_goto (tgt := 18) hx hb dL_law_764 (by decide) ?_
                                        have fx1279 : V1264 (a) = some (.inr (11, [.ref (n), .ref (n + 2), .ref (n + 5), .ref (n + 46), .ref (n + 50), .ref (n + 62), .ref (n + 87), .int (c_fs), .ref (n + 88), .ref (n + 465)])) := (hq1268.2 (a) _ ty0 rfl).trans (ho1252)
                                        have fx1280 : V1264 (n + 2) = some (.inr (7, [.int (q_fk), .int (q_fp), q_tx, q_ou, .int (q_nx), .int (q_tk), .int (q_st), .ref (n + 3)])) := (hq1268.2 (n + 2) _ ty3 rfl).trans ((hq1250.2 (n + 2) _ ty3 rfl).trans (ho_p))
                                        have fx1281 : V1264 (n + 50) = some (.inr (1, [.ref (n + 51), .ref (n + 52), .int (e_fd), .ref (n + 53), .ref (n + 55), .ref (n + 57), e_bk, e_an, e_mk, .int (e_sz), .ref (n + 59), .ref (n + 60), .ref (n + 61)])) := (hq1268.2 (n + 50) _ ty7 rfl).trans (ho1253)
                                        have fx1282 : V1264 (n) = some (.inr (9, [.ref (n + 1), .int (p_z)])) := (hq1268.2 (n) _ ty1 rfl).trans ((hq1250.2 (n) _ ty1 rfl).trans (ho_n))
                                        have hinv9 : hk_Inv cs G a n mo q V1264 := ⟨hP.1, ⟨_, _, _, fx1279, Or.inl ⟨rfl, rfl⟩, by omega, hJ.keep hP.1 ty18 (fun x t hx hg => (hq_lgp hq1268 hx hg (fun _ => rfl)).trans (hq_lgp hq1250 hx hg (fun _ => rfl)))⟩, ⟨_, _, _, _, _, _, _, fx1280⟩, ⟨_, _, _, _, _, fx1281, by omega, by omega⟩, ⟨_, _, _, _, _, _, _, _, _, _, _, _, _, _, _, _, _, _, _, _, fx1282, ho1271, by omega, by omega, by omega, by omega, by omega, by omega, by omega, by omega, by omega⟩, (hVQ.keep hR (fun x t hx hg => (hq1268.2 x t hx (by simp [hg])).trans (hq1250.2 x t hx (by simp [hg])))), (by obtain ⟨fs9, h9⟩ := hst; exact ⟨fs9, ((hq1268.2 _ _ (hr_19 hR) rfl).trans (hq1250.2 _ _ (hr_19 hR) rfl)).trans h9⟩)⟩
                                        exact ih _ (by omega) _ _ _ ls (y1273) rfl hZ hinv9 (by omega) (by omega) (lv_sub hl [0, 1, 2, 3] rfl)
                                      ·
                                        rcases Classical.em (y14 = 16) with h1283 | h1283
                                        · refine lv_tableIn (off := 649) (tgt := 682) hx hb dL_law_33 (by rw [h1283]; decide) (by rw [h1283]; decide) (by rw [h1283]; decide) (by decide) ?_
                                          have b1284 : (y14).toInt = 16 := by rw [h1283]; decide
                                          refine lv_aload_n hx hb dL_law_682 rfl (lv_at hl 2 rfl) ?_
                                          refine lv_aload_n hx hb dL_law_683 rfl (lv_at hl 3 rfl) ?_
                                          refine lv_iload_n hx hb dL_law_684 rfl (lv_at hl 0 rfl) ?_
                                          refine lv_iconst (v := 1) hx hb dL_law_685 (by decide) ?_
                                          refine lv_iadd hx hb dL_law_686 ?_
                                          refine lv_topi (fun y1285 ey1286 => ?_)
                                          obtain ⟨k1287, hk1288, b1289, b1290⟩ := hq_add (i) (1)
                                          rw [← ey1286] at hk1288 b1289 b1290
                                          have hk1288 : (y1285).toInt = (i).toInt + (1 : Int) + k1287 * 4294967296 := hk1288
                                          obtain rfl : k1287 = 0 := by omega
                                          refine va_sld hx hb hX hbl hbA hZ.2.1 (hq_in (by omega) (by omega)) dL_law_687 ?_
                                          refine lv_topi (fun y1291 ey1292 => ?_)
                                          have b1293 := hq_rng y1291
                                          refine lv_aload_n hx hb dL_law_688 rfl (lv_at hl 3 rfl) ?_
                                          refine lv_iload_n hx hb dL_law_689 rfl (lv_at hl 0 rfl) ?_
                                          refine lv_iconst (v := 2) hx hb dL_law_690 (by decide) ?_
                                          refine lv_iadd hx hb dL_law_691 ?_
                                          refine lv_topi (fun y1294 ey1295 => ?_)
                                          obtain ⟨k1296, hk1297, b1298, b1299⟩ := hq_add (i) (2)
                                          rw [← ey1295] at hk1297 b1298 b1299
                                          have hk1297 : (y1294).toInt = (i).toInt + (2 : Int) + k1296 * 4294967296 := hk1297
                                          obtain rfl : k1296 = 0 := by omega
                                          refine va_sld hx hb hX hbl hbA hZ.2.1 (hq_in (by omega) (by omega)) dL_law_692 ?_
                                          refine lv_topi (fun y1300 ey1301 => ?_)
                                          have b1302 := hq_rng y1300
                                          refine hp_calli (hp_runV (As := [.int (y1291), .int (y1300)]) (rest := []) hx hb hml hown hts (t_X11_misses_0 l D cs B G  V9 n hP.1  (a) ty0 (y1291) (y1300) ho_a ty1 ty3 ty5 ty6 ty7 ty16 ty17 ty18 ty19 (by omega) ) hZ ho_a cv_L_83 rfl rfl ⟨Nat.le_of_ble_eq_true rfl, Nat.le_of_ble_eq_true rfl⟩ rfl hl.1 rfl (Nat.le_of_ble_eq_true rfl) dL_law_693 ⟨(Nat.le_of_ble_eq_true rfl), (Nat.le_of_ble_eq_true rfl)⟩) hZ (fun r1306 V1303 n1304 _ _ hw1305 hZ => ?_)
                                          obtain ⟨rfl, hq1307, ho1309, hr1308⟩ := hw1305
                                          have hP := hP.trans hq1307 (fun _ _ => rfl)
                                          have b1310 := hq_rng r1306
                                          refine lv_pop hx hb dL_law_696 rfl ?_
                                          refine lv_aload_n hx hb dL_law_697 rfl (lv_at hl 1 rfl) ?_
                                          refine lv_aload_n hx hb dL_law_698 rfl (lv_at hl 3 rfl) ?_
                                          refine lv_iload_n hx hb dL_law_699 rfl (lv_at hl 0 rfl) ?_
                                          refine lv_iconst (v := 1) hx hb dL_law_700 (by decide) ?_
                                          refine lv_iadd hx hb dL_law_701 ?_
                                          refine lv_topi (fun y1311 ey1312 => ?_)
                                          obtain ⟨k1313, hk1314, b1315, b1316⟩ := hq_add (i) (1)
                                          rw [← ey1312] at hk1314 b1315 b1316
                                          have hk1314 : (y1311).toInt = (i).toInt + (1 : Int) + k1313 * 4294967296 := hk1314
                                          obtain rfl : k1313 = 0 := by omega
                                          refine va_sld hx hb hX hbl hbA hZ.2.1 (hq_in (by omega) (by omega)) dL_law_702 ?_
                                          refine lv_topi (fun y1317 ey1318 => ?_)
                                          have b1319 := hq_rng y1317
                                          refine lv_aload_n hx hb dL_law_703 rfl (lv_at hl 3 rfl) ?_
                                          refine lv_iload_n hx hb dL_law_704 rfl (lv_at hl 0 rfl) ?_
                                          refine lv_iconst (v := 2) hx hb dL_law_705 (by decide) ?_
                                          refine lv_iadd hx hb dL_law_706 ?_
                                          refine lv_topi (fun y1320 ey1321 => ?_)
                                          obtain ⟨k1322, hk1323, b1324, b1325⟩ := hq_add (i) (2)
                                          rw [← ey1321] at hk1323 b1324 b1325
                                          have hk1323 : (y1320).toInt = (i).toInt + (2 : Int) + k1322 * 4294967296 := hk1323
                                          obtain rfl : k1322 = 0 := by omega
                                          refine va_sld hx hb hX hbl hbA hZ.2.1 (hq_in (by omega) (by omega)) dL_law_707 ?_
                                          refine lv_topi (fun y1326 ey1327 => ?_)
                                          have b1328 := hq_rng y1326
                                          have fx1335 : V1303 (mo) = some (.inr (13, hm_o q (m_tp) (m_sz) (m_fr) (m_bh) (m_hd) (m_ft) (m_fa) (m_le) (m_fo) (m_as) (m_fd) (m_bc) (m_bg) (m_bs) (m_be) (m_b0) (m_b1) (m_cm) (m_hc))) := (hq1307.2 (mo) _ ty20 rfl).trans (ho_m)
                                          refine hp_calli (hp_runV (As := [.int (y1317), .int (y1326)]) (rest := []) hx hb hml hown hts (t_X13_misses l D cs B G  V1303 n hP.1 q hR (mo) ty20 (y1317) (y1326) fx1335  (by omega) (by omega) (by omega) (by omega) (by omega) (by omega) (by omega) (by omega) ) hZ fx1335 cv_L_86 rfl rfl ⟨Nat.le_of_ble_eq_true rfl, Nat.le_of_ble_eq_true rfl⟩ rfl hl.1 rfl (Nat.le_of_ble_eq_true rfl) dL_law_708 ⟨(Nat.le_of_ble_eq_true rfl), (Nat.le_of_ble_eq_true rfl)⟩) hZ (fun r1332 V1329 n1330 _ _ hw1331 hZ => ?_)
                                          obtain ⟨rfl, hq1333, ho1336, hr1334⟩ := hw1331
                                          have hP := hP.trans hq1333 (fun _ _ => rfl)
                                          have b1337 := hq_rng r1332
                                          refine lv_pop hx hb dL_law_711 rfl ?_
                                          refine lv_goto (tgt := 761) hx hb dL_law_712 (by decide) ?_
                                          obtain ⟨y1338, ey1339⟩ : ∃ y : Int32, y = i + (6) := ⟨_, rfl⟩
                                          obtain ⟨k1340, hk1341, b1342, b1343⟩ := hq_add (i) (6)
                                          rw [← ey1339] at hk1341 b1342 b1343
                                          have hk1341 : (y1338).toInt = (i).toInt + (6) + k1340 * 4294967296 := hk1341
                                          refine lv_iinc (v := y1338) (lv' := [(3, .int (y1338)), (2, .ref (mo)), (1, .ref (a)), (0, .ref (b))]) hx hb dL_law_761 hl (k := 0) rfl (by rw [ey1339]; rfl) (by decide) rfl (fun ls hl => ?_)
                                          refine lv_goto (tgt := 18) hx hb dL_law_764 (by decide) ?_
                                          have fx1344 : V1329 (a) = some (.inr (11, [.ref (n), .ref (n + 2), .ref (n + 5), .ref (n + 46), .ref (n + 50), .ref (n + 62), .ref (n + 87), .int (c_fs), .ref (n + 88), .ref (n + 465)])) := (hq1333.2 (a) _ ty0 rfl).trans (ho1309)
                                          have fx1345 : V1329 (n + 2) = some (.inr (7, [.int (q_fk), .int (q_fp), q_tx, q_ou, .int (q_nx), .int (q_tk), .int (q_st), .ref (n + 3)])) := (hq1333.2 (n + 2) _ ty3 rfl).trans ((hq1307.2 (n + 2) _ ty3 rfl).trans (ho_p))
                                          have fx1346 : V1329 (n + 50) = some (.inr (1, [.ref (n + 51), .ref (n + 52), .int (e_fd), .ref (n + 53), .ref (n + 55), .ref (n + 57), e_bk, e_an, e_mk, .int (e_sz), .ref (n + 59), .ref (n + 60), .ref (n + 61)])) := (hq1333.2 (n + 50) _ ty7 rfl).trans ((hq1307.2 (n + 50) _ ty7 rfl).trans (ho_e))
                                          have fx1347 : V1329 (n) = some (.inr (9, [.ref (n + 1), .int (p_z)])) := (hq1333.2 (n) _ ty1 rfl).trans ((hq1307.2 (n) _ ty1 rfl).trans (ho_n))
                                          have hinv9 : hk_Inv cs G a n mo q V1329 := ⟨hP.1, ⟨_, _, _, fx1344, Or.inl ⟨rfl, rfl⟩, by omega, hJ.keep hP.1 ty18 (fun x t hx hg => (hq_lgp hq1333 hx hg (fun _ => rfl)).trans (hq_lgp hq1307 hx hg (fun _ => rfl)))⟩, ⟨_, _, _, _, _, _, _, fx1345⟩, ⟨_, _, _, _, _, fx1346, by omega, by omega⟩, ⟨_, _, _, _, _, _, _, _, _, _, _, _, _, _, _, _, _, _, _, _, fx1347, ho1336, by omega, by omega, by omega, by omega, by omega, by omega, by omega, by omega, by omega⟩, (hVQ.keep hR (fun x t hx hg => (hq1333.2 x t hx (by simp [hg])).trans (hq1307.2 x t hx (by simp [hg])))), (by obtain ⟨fs9, h9⟩ := hst; exact ⟨fs9, ((hq1333.2 _ _ (hr_19 hR) rfl).trans (hq1307.2 _ _ (hr_19 hR) rfl)).trans h9⟩)⟩
                                          exact ih _ (by omega) _ _ _ ls (y1338) rfl hZ hinv9 (by omega) (by omega) (lv_sub hl [0, 1, 2, 3] rfl)
                                        ·
                                          rcases Classical.em (y14 = 17) with h1348 | h1348
                                          · refine lv_tableIn (off := 682) (tgt := 715) hx hb dL_law_33 (by rw [h1348]; decide) (by rw [h1348]; decide) (by rw [h1348]; decide) (by decide) ?_
                                            have b1349 : (y14).toInt = 17 := by rw [h1348]; decide
                                            refine lv_aload_n hx hb dL_law_715 rfl (lv_at hl 2 rfl) ?_
                                            refine lv_aload_n hx hb dL_law_716 rfl (lv_at hl 3 rfl) ?_
                                            refine lv_iload_n hx hb dL_law_717 rfl (lv_at hl 0 rfl) ?_
                                            refine lv_iconst (v := 1) hx hb dL_law_718 (by decide) ?_
                                            refine lv_iadd hx hb dL_law_719 ?_
                                            refine lv_topi (fun y1350 ey1351 => ?_)
                                            obtain ⟨k1352, hk1353, b1354, b1355⟩ := hq_add (i) (1)
                                            rw [← ey1351] at hk1353 b1354 b1355
                                            have hk1353 : (y1350).toInt = (i).toInt + (1 : Int) + k1352 * 4294967296 := hk1353
                                            obtain rfl : k1352 = 0 := by omega
                                            refine va_sld hx hb hX hbl hbA hZ.2.1 (hq_in (by omega) (by omega)) dL_law_720 ?_
                                            refine lv_topi (fun y1356 ey1357 => ?_)
                                            have b1358 := hq_rng y1356
                                            refine hp_calli (hp_runV (As := [.int (y1356)]) (rest := []) hx hb hml hown hts (t_X11_drill_0 l D cs B G  V9 n hP.1  (a) ty0 (y1356) ho_a ty1 ty3 ty5 ty6 ty7 ty16 ty17 ty18 ty19 (by omega) hJ) hZ ho_a cv_L_87 rfl rfl ⟨Nat.le_of_ble_eq_true rfl, Nat.le_of_ble_eq_true rfl⟩ rfl hl.1 rfl (Nat.le_of_ble_eq_true rfl) dL_law_721 ⟨(Nat.le_of_ble_eq_true rfl), (Nat.le_of_ble_eq_true rfl)⟩) hZ (fun r1362 V1359 n1360 _ _ hw1361 hZ => ?_)
                                            obtain ⟨rfl, hq1363, ho1365, hr1364⟩ := hw1361
                                            have hP := hP.trans hq1363 (by intro g h; simp_all)
                                            have b1366 := hq_rng r1362
                                            refine lv_pop hx hb dL_law_724 rfl ?_
                                            refine lv_aload_n hx hb dL_law_725 rfl (lv_at hl 1 rfl) ?_
                                            refine lv_aload_n hx hb dL_law_726 rfl (lv_at hl 3 rfl) ?_
                                            refine lv_iload_n hx hb dL_law_727 rfl (lv_at hl 0 rfl) ?_
                                            refine lv_iconst (v := 1) hx hb dL_law_728 (by decide) ?_
                                            refine lv_iadd hx hb dL_law_729 ?_
                                            refine lv_topi (fun y1367 ey1368 => ?_)
                                            obtain ⟨k1369, hk1370, b1371, b1372⟩ := hq_add (i) (1)
                                            rw [← ey1368] at hk1370 b1371 b1372
                                            have hk1370 : (y1367).toInt = (i).toInt + (1 : Int) + k1369 * 4294967296 := hk1370
                                            obtain rfl : k1369 = 0 := by omega
                                            refine va_sld hx hb hX hbl hbA hZ.2.1 (hq_in (by omega) (by omega)) dL_law_730 ?_
                                            refine lv_topi (fun y1373 ey1374 => ?_)
                                            have b1375 := hq_rng y1373
                                            have fx1382 : V1359 (mo) = some (.inr (13, hm_o q (m_tp) (m_sz) (m_fr) (m_bh) (m_hd) (m_ft) (m_fa) (m_le) (m_fo) (m_as) (m_fd) (m_bc) (m_bg) (m_bs) (m_be) (m_b0) (m_b1) (m_cm) (m_hc))) := (hq1363.2 (mo) _ ty20 rfl).trans (ho_m)
                                            refine hp_calli (hp_runV (As := [.int (y1373)]) (rest := []) hx hb hml hown hts (t_X13_drill l D cs B G  V1359 n hP.1 q hR (mo) ty20 (y1373) fx1382  (by omega) (by omega) (by omega) (by omega) (by omega) (by omega) (by omega) (by omega) (hVQ.keep hR (fun x t hx hg => hq1363.2 x t hx (by simp [hg])))) hZ fx1382 cv_L_90 rfl rfl ⟨Nat.le_of_ble_eq_true rfl, Nat.le_of_ble_eq_true rfl⟩ rfl hl.1 rfl (Nat.le_of_ble_eq_true rfl) dL_law_731 ⟨(Nat.le_of_ble_eq_true rfl), (Nat.le_of_ble_eq_true rfl)⟩) hZ (fun r1379 V1376 n1377 _ _ hw1378 hZ => ?_)
                                            obtain ⟨rfl, hq1380, ⟨z1383, z1384, ho1385, hi1386, hi1387⟩, hr1381⟩ := hw1378
                                            have hP := hP.trans hq1380 (by intro g h; simp_all)
                                            have b1388 := hq_rng z1384
                                            have b1389 := hq_rng z1383
                                            have b1390 := hq_rng r1379
                                            refine lv_pop hx hb dL_law_734 rfl ?_
                                            refine lv_goto (tgt := 761) hx hb dL_law_735 (by decide) ?_
                                            obtain ⟨y1391, ey1392⟩ : ∃ y : Int32, y = i + (6) := ⟨_, rfl⟩
                                            obtain ⟨k1393, hk1394, b1395, b1396⟩ := hq_add (i) (6)
                                            rw [← ey1392] at hk1394 b1395 b1396
                                            have hk1394 : (y1391).toInt = (i).toInt + (6) + k1393 * 4294967296 := hk1394
                                            refine lv_iinc (v := y1391) (lv' := [(3, .int (y1391)), (2, .ref (mo)), (1, .ref (a)), (0, .ref (b))]) hx hb dL_law_761 hl (k := 0) rfl (by rw [ey1392]; rfl) (by decide) rfl (fun ls hl => ?_)
                                            refine lv_goto (tgt := 18) hx hb dL_law_764 (by decide) ?_
                                            have fx1397 : V1376 (a) = some (.inr (11, [.ref (n), .ref (n + 2), .ref (n + 5), .ref (n + 46), .ref (n + 50), .ref (n + 62), .ref (n + 87), .int (c_fs), .ref (n + 88), .ref (n + 465)])) := (hq1380.2 (a) _ ty0 rfl).trans (ho1365)
                                            have fx1398 : V1376 (n + 2) = some (.inr (7, [.int (q_fk), .int (q_fp), q_tx, q_ou, .int (q_nx), .int (q_tk), .int (q_st), .ref (n + 3)])) := (hq1380.2 (n + 2) _ ty3 rfl).trans ((hq1363.2 (n + 2) _ ty3 rfl).trans (ho_p))
                                            have fx1399 : V1376 (n + 50) = some (.inr (1, [.ref (n + 51), .ref (n + 52), .int (e_fd), .ref (n + 53), .ref (n + 55), .ref (n + 57), e_bk, e_an, e_mk, .int (e_sz), .ref (n + 59), .ref (n + 60), .ref (n + 61)])) := (hq1380.2 (n + 50) _ ty7 rfl).trans ((hq1363.2 (n + 50) _ ty7 rfl).trans (ho_e))
                                            have fx1400 : V1376 (n) = some (.inr (9, [.ref (n + 1), .int (p_z)])) := (hq1380.2 (n) _ ty1 rfl).trans ((hq1363.2 (n) _ ty1 rfl).trans (ho_n))
                                            have hinv9 : hk_Inv cs G a n mo q V1376 := ⟨hP.1, ⟨_, _, _, fx1397, Or.inl ⟨rfl, rfl⟩, by omega, hJ.keep hP.1 ty18 (fun x t hx hg => (hq_lgp hq1380 hx hg (fun _ => rfl)).trans (hq_lgp hq1363 hx hg (fun _ => rfl)))⟩, ⟨_, _, _, _, _, _, _, fx1398⟩, ⟨_, _, _, _, _, fx1399, by omega, by omega⟩, ⟨_, _, _, _, _, _, _, _, _, _, _, _, _, _, _, _, _, _, _, _, fx1400, ho1385, by omega, by omega, by omega, by omega, by omega, by omega, by omega, by omega, by omega⟩, (hVQ.keep hR (fun x t hx hg => (hq1380.2 x t hx (by simp [hg])).trans (hq1363.2 x t hx (by simp [hg])))), (by obtain ⟨fs9, h9⟩ := hst; exact ⟨fs9, ((hq1380.2 _ _ (hr_19 hR) rfl).trans (hq1363.2 _ _ (hr_19 hR) rfl)).trans h9⟩)⟩
                                            exact ih _ (by omega) _ _ _ ls (y1391) rfl hZ hinv9 (by omega) (by omega) (lv_sub hl [0, 1, 2, 3] rfl)
                                          ·
                                            rcases Classical.em (y14 = 18) with h1401 | h1401
                                            · refine lv_tableIn (off := 705) (tgt := 738) hx hb dL_law_33 (by rw [h1401]; decide) (by rw [h1401]; decide) (by rw [h1401]; decide) (by decide) ?_
                                              have b1402 : (y14).toInt = 18 := by rw [h1401]; decide
                                              refine lv_aload_n hx hb dL_law_738 rfl (lv_at hl 2 rfl) ?_
                                              refine lv_aload_n hx hb dL_law_739 rfl (lv_at hl 3 rfl) ?_
                                              refine lv_iload_n hx hb dL_law_740 rfl (lv_at hl 0 rfl) ?_
                                              refine lv_iconst (v := 1) hx hb dL_law_741 (by decide) ?_
                                              refine lv_iadd hx hb dL_law_742 ?_
                                              refine lv_topi (fun y1403 ey1404 => ?_)
                                              obtain ⟨k1405, hk1406, b1407, b1408⟩ := hq_add (i) (1)
                                              rw [← ey1404] at hk1406 b1407 b1408
                                              have hk1406 : (y1403).toInt = (i).toInt + (1 : Int) + k1405 * 4294967296 := hk1406
                                              obtain rfl : k1405 = 0 := by omega
                                              refine va_sld hx hb hX hbl hbA hZ.2.1 (hq_in (by omega) (by omega)) dL_law_743 ?_
                                              refine lv_topi (fun y1409 ey1410 => ?_)
                                              have b1411 := hq_rng y1409
                                              refine hp_calli (hp_runV (As := [.int (y1409)]) (rest := []) hx hb hml hown hts (t_X11_count_0 l D cs B G  V9 n hP.1  (a) ty0 (y1409) ho_a ty1 ty3 ty5 ty6 ty7 ty16 ty17 ty18 ty19 (by omega) ) hZ ho_a cv_L_91 rfl rfl ⟨Nat.le_of_ble_eq_true rfl, Nat.le_of_ble_eq_true rfl⟩ rfl hl.1 rfl (Nat.le_of_ble_eq_true rfl) dL_law_744 ⟨(Nat.le_of_ble_eq_true rfl), (Nat.le_of_ble_eq_true rfl)⟩) hZ (fun r1415 V1412 n1413 _ _ hw1414 hZ => ?_)
                                              obtain ⟨rfl, hq1416, ho1418, hr1417⟩ := hw1414
                                              have hP := hP.trans hq1416 (fun _ _ => rfl)
                                              have b1419 := hq_rng r1415
                                              refine lv_pop hx hb dL_law_747 rfl ?_
                                              refine lv_aload_n hx hb dL_law_748 rfl (lv_at hl 1 rfl) ?_
                                              refine lv_aload_n hx hb dL_law_749 rfl (lv_at hl 3 rfl) ?_
                                              refine lv_iload_n hx hb dL_law_750 rfl (lv_at hl 0 rfl) ?_
                                              refine lv_iconst (v := 1) hx hb dL_law_751 (by decide) ?_
                                              refine lv_iadd hx hb dL_law_752 ?_
                                              refine lv_topi (fun y1420 ey1421 => ?_)
                                              obtain ⟨k1422, hk1423, b1424, b1425⟩ := hq_add (i) (1)
                                              rw [← ey1421] at hk1423 b1424 b1425
                                              have hk1423 : (y1420).toInt = (i).toInt + (1 : Int) + k1422 * 4294967296 := hk1423
                                              obtain rfl : k1422 = 0 := by omega
                                              refine va_sld hx hb hX hbl hbA hZ.2.1 (hq_in (by omega) (by omega)) dL_law_753 ?_
                                              refine lv_topi (fun y1426 ey1427 => ?_)
                                              have b1428 := hq_rng y1426
                                              have fx1435 : V1412 (mo) = some (.inr (13, hm_o q (m_tp) (m_sz) (m_fr) (m_bh) (m_hd) (m_ft) (m_fa) (m_le) (m_fo) (m_as) (m_fd) (m_bc) (m_bg) (m_bs) (m_be) (m_b0) (m_b1) (m_cm) (m_hc))) := (hq1416.2 (mo) _ ty20 rfl).trans (ho_m)
                                              refine hp_calli (hp_runV (As := [.int (y1426)]) (rest := []) hx hb hml hown hts (t_X13_count l D cs B G  V1412 n hP.1 q hR (mo) ty20 (y1426) fx1435  (by omega) (by omega) (by omega) (by omega) (by omega) (by omega) (by omega) (by omega) ) hZ fx1435 cv_L_94 rfl rfl ⟨Nat.le_of_ble_eq_true rfl, Nat.le_of_ble_eq_true rfl⟩ rfl hl.1 rfl (Nat.le_of_ble_eq_true rfl) dL_law_754 ⟨(Nat.le_of_ble_eq_true rfl), (Nat.le_of_ble_eq_true rfl)⟩) hZ (fun r1432 V1429 n1430 _ _ hw1431 hZ => ?_)
                                              obtain ⟨rfl, hq1433, ho1436, hr1434⟩ := hw1431
                                              have hP := hP.trans hq1433 (fun _ _ => rfl)
                                              have b1437 := hq_rng r1432
                                              refine lv_pop hx hb dL_law_757 rfl ?_
                                              refine lv_goto (tgt := 761) hx hb dL_law_758 (by decide) ?_
                                              obtain ⟨y1438, ey1439⟩ : ∃ y : Int32, y = i + (6) := ⟨_, rfl⟩
                                              obtain ⟨k1440, hk1441, b1442, b1443⟩ := hq_add (i) (6)
                                              rw [← ey1439] at hk1441 b1442 b1443
                                              have hk1441 : (y1438).toInt = (i).toInt + (6) + k1440 * 4294967296 := hk1441
                                              refine lv_iinc (v := y1438) (lv' := [(3, .int (y1438)), (2, .ref (mo)), (1, .ref (a)), (0, .ref (b))]) hx hb dL_law_761 hl (k := 0) rfl (by rw [ey1439]; rfl) (by decide) rfl (fun ls hl => ?_)
                                              refine lv_goto (tgt := 18) hx hb dL_law_764 (by decide) ?_
                                              have fx1444 : V1429 (a) = some (.inr (11, [.ref (n), .ref (n + 2), .ref (n + 5), .ref (n + 46), .ref (n + 50), .ref (n + 62), .ref (n + 87), .int (c_fs), .ref (n + 88), .ref (n + 465)])) := (hq1433.2 (a) _ ty0 rfl).trans (ho1418)
                                              have fx1445 : V1429 (n + 2) = some (.inr (7, [.int (q_fk), .int (q_fp), q_tx, q_ou, .int (q_nx), .int (q_tk), .int (q_st), .ref (n + 3)])) := (hq1433.2 (n + 2) _ ty3 rfl).trans ((hq1416.2 (n + 2) _ ty3 rfl).trans (ho_p))
                                              have fx1446 : V1429 (n + 50) = some (.inr (1, [.ref (n + 51), .ref (n + 52), .int (e_fd), .ref (n + 53), .ref (n + 55), .ref (n + 57), e_bk, e_an, e_mk, .int (e_sz), .ref (n + 59), .ref (n + 60), .ref (n + 61)])) := (hq1433.2 (n + 50) _ ty7 rfl).trans ((hq1416.2 (n + 50) _ ty7 rfl).trans (ho_e))
                                              have fx1447 : V1429 (n) = some (.inr (9, [.ref (n + 1), .int (p_z)])) := (hq1433.2 (n) _ ty1 rfl).trans ((hq1416.2 (n) _ ty1 rfl).trans (ho_n))
                                              have hinv9 : hk_Inv cs G a n mo q V1429 := ⟨hP.1, ⟨_, _, _, fx1444, Or.inl ⟨rfl, rfl⟩, by omega, hJ.keep hP.1 ty18 (fun x t hx hg => (hq_lgp hq1433 hx hg (fun _ => rfl)).trans (hq_lgp hq1416 hx hg (fun _ => rfl)))⟩, ⟨_, _, _, _, _, _, _, fx1445⟩, ⟨_, _, _, _, _, fx1446, by omega, by omega⟩, ⟨_, _, _, _, _, _, _, _, _, _, _, _, _, _, _, _, _, _, _, _, fx1447, ho1436, by omega, by omega, by omega, by omega, by omega, by omega, by omega, by omega, by omega⟩, (hVQ.keep hR (fun x t hx hg => (hq1433.2 x t hx (by simp [hg])).trans (hq1416.2 x t hx (by simp [hg])))), (by obtain ⟨fs9, h9⟩ := hst; exact ⟨fs9, ((hq1433.2 _ _ (hr_19 hR) rfl).trans (hq1416.2 _ _ (hr_19 hR) rfl)).trans h9⟩)⟩
                                              exact ih _ (by omega) _ _ _ ls (y1438) rfl hZ hinv9 (by omega) (by omega) (lv_sub hl [0, 1, 2, 3] rfl)
                                            ·
                                              have z1448 : ¬ (y14).toInt = 0 := lv_neT h17 (by decide)
                                              have z1449 : ¬ (y14).toInt = 1 := lv_neT h146 (by decide)
                                              have z1450 : ¬ (y14).toInt = 2 := lv_neT h202 (by decide)
                                              have z1451 : ¬ (y14).toInt = 3 := lv_neT h282 (by decide)
                                              have z1452 : ¬ (y14).toInt = 4 := lv_neT h330 (by decide)
                                              have z1453 : ¬ (y14).toInt = 5 := lv_neT h395 (by decide)
                                              have z1454 : ¬ (y14).toInt = 6 := lv_neT h460 (by decide)
                                              have z1455 : ¬ (y14).toInt = 7 := lv_neT h549 (by decide)
                                              have z1456 : ¬ (y14).toInt = 8 := lv_neT h674 (by decide)
                                              have z1457 : ¬ (y14).toInt = 9 := lv_neT h799 (by decide)
                                              have z1458 : ¬ (y14).toInt = 10 := lv_neT h882 (by decide)
                                              have z1459 : ¬ (y14).toInt = 11 := lv_neT h935 (by decide)
                                              have z1460 : ¬ (y14).toInt = 12 := lv_neT h1000 (by decide)
                                              have z1461 : ¬ (y14).toInt = 13 := lv_neT h1035 (by decide)
                                              have z1462 : ¬ (y14).toInt = 14 := lv_neT h1088 (by decide)
                                              have z1463 : ¬ (y14).toInt = 15 := lv_neT h1235 (by decide)
                                              have z1464 : ¬ (y14).toInt = 16 := lv_neT h1283 (by decide)
                                              have z1465 : ¬ (y14).toInt = 17 := lv_neT h1348 (by decide)
                                              have z1466 : ¬ (y14).toInt = 18 := lv_neT h1401 (by decide)
                                              refine lv_tableOut (tgt := 761) hx hb dL_law_33 (by omega) (by decide) ?_
                                              obtain ⟨y1467, ey1468⟩ : ∃ y : Int32, y = i + (6) := ⟨_, rfl⟩
                                              obtain ⟨k1469, hk1470, b1471, b1472⟩ := hq_add (i) (6)
                                              rw [← ey1468] at hk1470 b1471 b1472
                                              have hk1470 : (y1467).toInt = (i).toInt + (6) + k1469 * 4294967296 := hk1470
                                              refine lv_iinc (v := y1467) (lv' := [(3, .int (y1467)), (2, .ref (mo)), (1, .ref (a)), (0, .ref (b))]) hx hb dL_law_761 hl (k := 0) rfl (by rw [ey1468]; rfl) (by decide) rfl (fun ls hl => ?_)
                                              refine lv_goto (tgt := 18) hx hb dL_law_764 (by decide) ?_
                                              have hinv9 : hk_Inv cs G a n mo q V9 := ⟨hP.1, ⟨_, _, _, ho_a, Or.inl ⟨rfl, rfl⟩, by omega, hJ.keep hP.1 ty18 (fun x t hx hg => rfl)⟩, ⟨_, _, _, _, _, _, _, ho_p⟩, ⟨_, _, _, _, _, ho_e, by omega, by omega⟩, ⟨_, _, _, _, _, _, _, _, _, _, _, _, _, _, _, _, _, _, _, _, ho_n, ho_m, by omega, by omega, by omega, by omega, by omega, by omega, by omega, by omega, by omega⟩, (hVQ.keep hR (fun x t hx hg => rfl)), hst⟩
                                              exact ih _ (by omega) _ _ _ ls (y1467) rfl hZ hinv9 (by omega) (by omega) (lv_sub hl [0, 1, 2, 3] rfl)
    · refine lv_iload_n hx hb dL_law_18 rfl (lv_at hl 0 rfl) ?_
      refine lv_aload_n hx hb dL_law_19 rfl (lv_at hl 3 rfl) ?_
      refine va_slen hx hb hX hbl hbA hZ.2.1 dL_law_20 ?_
      refine lv_topi (fun y1 ey2 => ?_)
      have b3 : (y1).toInt = (L : Nat) := by rw [ey2]; exact hq_nI (by omega)
      refine lv_bipush (v := 6) hx hb dL_law_21 (by decide) ?_
      refine lv_isub hx hb dL_law_23 ?_
      refine lv_topi (fun y4 ey5 => ?_)
      obtain ⟨k6, hk7, b8, b9⟩ := hq_sub (y1) (6)
      rw [← ey5] at hk7 b8 b9
      have hk7 : (y4).toInt = (y1).toInt - (6 : Int) + k6 * 4294967296 := hk7
      obtain rfl : k6 = 0 := by omega
      refine lv_icmp_gt (tgt := 767) hx hb dL_law_24 (by decide) (fun c10 => ?_) (fun c10 => ?_)
      · have c10 : (y4).toInt < (i).toInt := hq_lti.mp c10
        refine lv_iconst (v := 1) hx hb dL_law_767 (by decide) ?_
        refine va_forget (fun q hq => by rw [← hB]; exact hZ.2.1.2.2 q hq) ?_
        refine W.widen (k := 601024) (n := 7293034) (Nat.le_of_ble_eq_true rfl) (Nat.le_of_ble_eq_true rfl) ?_
        exact lw_ret hx hb hr hlocks dL_law_768
      · have c10 : ¬ (y4).toInt < (i).toInt := fun h9 => c10 (hq_lti.mpr h9)
        refine lv_aload_n hx hb dL_law_27 rfl (lv_at hl 3 rfl) ?_
        refine lv_iload_n hx hb dL_law_28 rfl (lv_at hl 0 rfl) ?_
        refine va_sld hx hb hX hbl hbA hZ.2.1 (hq_in (by omega) (by omega)) dL_law_29 ?_
        refine lv_topi (fun y11 ey12 => ?_)
        have b13 := hq_rng y11
        refine lv_bipush (v := 31) hx hb dL_law_30 (by decide) ?_
        refine lv_iand hx hb dL_law_32 ?_
        refine lv_topi (fun y14 ey15 => ?_)
        have b16 := hq_rng y14
        rcases Classical.em (y14 = 0) with h17 | h17
        · refine lv_tableIn (off := 91) (tgt := 124) hx hb dL_law_33 (by rw [h17]; decide) (by rw [h17]; decide) (by rw [h17]; decide) (by decide) ?_
          have b18 : (y14).toInt = 0 := by rw [h17]; decide
          refine lv_aload_n hx hb dL_law_124 rfl (lv_at hl 2 rfl) ?_
          refine lv_aload_n hx hb dL_law_125 rfl (lv_at hl 3 rfl) ?_
          refine lv_iload_n hx hb dL_law_126 rfl (lv_at hl 0 rfl) ?_
          refine lv_iconst (v := 1) hx hb dL_law_127 (by decide) ?_
          refine lv_iadd hx hb dL_law_128 ?_
          refine lv_topi (fun y19 ey20 => ?_)
          obtain ⟨k21, hk22, b23, b24⟩ := hq_add (i) (1)
          rw [← ey20] at hk22 b23 b24
          have hk22 : (y19).toInt = (i).toInt + (1 : Int) + k21 * 4294967296 := hk22
          obtain rfl : k21 = 0 := by omega
          refine va_sld hx hb hX hbl hbA hZ.2.1 (hq_in (by omega) (by omega)) dL_law_129 ?_
          refine lv_topi (fun y25 ey26 => ?_)
          have b27 := hq_rng y25
          refine lv_aload_n hx hb dL_law_130 rfl (lv_at hl 3 rfl) ?_
          refine lv_iload_n hx hb dL_law_131 rfl (lv_at hl 0 rfl) ?_
          refine lv_iconst (v := 2) hx hb dL_law_132 (by decide) ?_
          refine lv_iadd hx hb dL_law_133 ?_
          refine lv_topi (fun y28 ey29 => ?_)
          obtain ⟨k30, hk31, b32, b33⟩ := hq_add (i) (2)
          rw [← ey29] at hk31 b32 b33
          have hk31 : (y28).toInt = (i).toInt + (2 : Int) + k30 * 4294967296 := hk31
          obtain rfl : k30 = 0 := by omega
          refine va_sld hx hb hX hbl hbA hZ.2.1 (hq_in (by omega) (by omega)) dL_law_134 ?_
          refine lv_topi (fun y34 ey35 => ?_)
          have b36 := hq_rng y34
          refine lv_aload_n hx hb dL_law_135 rfl (lv_at hl 3 rfl) ?_
          refine lv_iload_n hx hb dL_law_136 rfl (lv_at hl 0 rfl) ?_
          refine lv_iconst (v := 3) hx hb dL_law_137 (by decide) ?_
          refine lv_iadd hx hb dL_law_138 ?_
          refine lv_topi (fun y37 ey38 => ?_)
          obtain ⟨k39, hk40, b41, b42⟩ := hq_add (i) (3)
          rw [← ey38] at hk40 b41 b42
          have hk40 : (y37).toInt = (i).toInt + (3 : Int) + k39 * 4294967296 := hk40
          obtain rfl : k39 = 0 := by omega
          refine va_sld hx hb hX hbl hbA hZ.2.1 (hq_in (by omega) (by omega)) dL_law_139 ?_
          refine lv_topi (fun y43 ey44 => ?_)
          have b45 := hq_rng y43
          refine lv_aload_n hx hb dL_law_140 rfl (lv_at hl 3 rfl) ?_
          refine lv_iload_n hx hb dL_law_141 rfl (lv_at hl 0 rfl) ?_
          refine lv_iconst (v := 4) hx hb dL_law_142 (by decide) ?_
          refine lv_iadd hx hb dL_law_143 ?_
          refine lv_topi (fun y46 ey47 => ?_)
          obtain ⟨k48, hk49, b50, b51⟩ := hq_add (i) (4)
          rw [← ey47] at hk49 b50 b51
          have hk49 : (y46).toInt = (i).toInt + (4 : Int) + k48 * 4294967296 := hk49
          obtain rfl : k48 = 0 := by omega
          refine va_sld hx hb hX hbl hbA hZ.2.1 (hq_in (by omega) (by omega)) dL_law_144 ?_
          refine lv_topi (fun y52 ey53 => ?_)
          have b54 := hq_rng y52
          refine lv_aload_n hx hb dL_law_145 rfl (lv_at hl 3 rfl) ?_
          refine lv_iload_n hx hb dL_law_146 rfl (lv_at hl 0 rfl) ?_
          refine lv_iconst (v := 5) hx hb dL_law_147 (by decide) ?_
          refine lv_iadd hx hb dL_law_148 ?_
          refine lv_topi (fun y55 ey56 => ?_)
          obtain ⟨k57, hk58, b59, b60⟩ := hq_add (i) (5)
          rw [← ey56] at hk58 b59 b60
          have hk58 : (y55).toInt = (i).toInt + (5 : Int) + k57 * 4294967296 := hk58
          obtain rfl : k57 = 0 := by omega
          refine va_sld hx hb hX hbl hbA hZ.2.1 (hq_in (by omega) (by omega)) dL_law_149 ?_
          refine lv_topi (fun y61 ey62 => ?_)
          have b63 := hq_rng y61
          refine hp_calli (hp_runV (As := [.int (y25), .int (y34), .int (y43), .int (y52), .int (y61)]) (rest := []) hx hb hml hown hts (t_X11_feed_1 l D cs B G  V9 n hP.1  (a) ty0 (y25) (y34) (y43) (y52) (y61) ho_a ty1 ty3 ty5 ty6 ty7 ty16 ty17 ty19 ty18 (by omega) ho_n ty2 (by omega) ) hZ ho_a cv_L_13 rfl rfl ⟨Nat.le_of_ble_eq_true rfl, Nat.le_of_ble_eq_true rfl⟩ rfl hl.1 rfl (Nat.le_of_ble_eq_true rfl) dL_law_150 ⟨(Nat.le_of_ble_eq_true rfl), (Nat.le_of_ble_eq_true rfl)⟩) hZ (fun r67 V64 n65 _ _ hw66 hZ => ?_)
          obtain ⟨rfl, hq68, ho70, ⟨z71, ho72, hi73, hi74⟩, hr69⟩ := hw66
          have hP := hP.trans hq68 (by intro g h; simp_all)
          have b75 := hq_rng z71
          have b76 := hq_rng r67
          refine lv_aload_n hx hb dL_law_153 rfl (lv_at hl 1 rfl) ?_
          refine lv_aload_n hx hb dL_law_154 rfl (lv_at hl 3 rfl) ?_
          refine lv_iload_n hx hb dL_law_155 rfl (lv_at hl 0 rfl) ?_
          refine lv_iconst (v := 1) hx hb dL_law_156 (by decide) ?_
          refine lv_iadd hx hb dL_law_157 ?_
          refine lv_topi (fun y77 ey78 => ?_)
          obtain ⟨k79, hk80, b81, b82⟩ := hq_add (i) (1)
          rw [← ey78] at hk80 b81 b82
          have hk80 : (y77).toInt = (i).toInt + (1 : Int) + k79 * 4294967296 := hk80
          obtain rfl : k79 = 0 := by omega
          refine va_sld hx hb hX hbl hbA hZ.2.1 (hq_in (by omega) (by omega)) dL_law_158 ?_
          refine lv_topi (fun y83 ey84 => ?_)
          have b85 := hq_rng y83
          refine lv_aload_n hx hb dL_law_159 rfl (lv_at hl 3 rfl) ?_
          refine lv_iload_n hx hb dL_law_160 rfl (lv_at hl 0 rfl) ?_
          refine lv_iconst (v := 2) hx hb dL_law_161 (by decide) ?_
          refine lv_iadd hx hb dL_law_162 ?_
          refine lv_topi (fun y86 ey87 => ?_)
          obtain ⟨k88, hk89, b90, b91⟩ := hq_add (i) (2)
          rw [← ey87] at hk89 b90 b91
          have hk89 : (y86).toInt = (i).toInt + (2 : Int) + k88 * 4294967296 := hk89
          obtain rfl : k88 = 0 := by omega
          refine va_sld hx hb hX hbl hbA hZ.2.1 (hq_in (by omega) (by omega)) dL_law_163 ?_
          refine lv_topi (fun y92 ey93 => ?_)
          have b94 := hq_rng y92
          refine lv_aload_n hx hb dL_law_164 rfl (lv_at hl 3 rfl) ?_
          refine lv_iload_n hx hb dL_law_165 rfl (lv_at hl 0 rfl) ?_
          refine lv_iconst (v := 3) hx hb dL_law_166 (by decide) ?_
          refine lv_iadd hx hb dL_law_167 ?_
          refine lv_topi (fun y95 ey96 => ?_)
          obtain ⟨k97, hk98, b99, b100⟩ := hq_add (i) (3)
          rw [← ey96] at hk98 b99 b100
          have hk98 : (y95).toInt = (i).toInt + (3 : Int) + k97 * 4294967296 := hk98
          obtain rfl : k97 = 0 := by omega
          refine va_sld hx hb hX hbl hbA hZ.2.1 (hq_in (by omega) (by omega)) dL_law_168 ?_
          refine lv_topi (fun y101 ey102 => ?_)
          have b103 := hq_rng y101
          refine lv_aload_n hx hb dL_law_169 rfl (lv_at hl 3 rfl) ?_
          refine lv_iload_n hx hb dL_law_170 rfl (lv_at hl 0 rfl) ?_
          refine lv_iconst (v := 4) hx hb dL_law_171 (by decide) ?_
          refine lv_iadd hx hb dL_law_172 ?_
          refine lv_topi (fun y104 ey105 => ?_)
          obtain ⟨k106, hk107, b108, b109⟩ := hq_add (i) (4)
          rw [← ey105] at hk107 b108 b109
          have hk107 : (y104).toInt = (i).toInt + (4 : Int) + k106 * 4294967296 := hk107
          obtain rfl : k106 = 0 := by omega
          refine va_sld hx hb hX hbl hbA hZ.2.1 (hq_in (by omega) (by omega)) dL_law_173 ?_
          refine lv_topi (fun y110 ey111 => ?_)
          have b112 := hq_rng y110
          refine lv_aload_n hx hb dL_law_174 rfl (lv_at hl 3 rfl) ?_
          refine lv_iload_n hx hb dL_law_175 rfl (lv_at hl 0 rfl) ?_
          refine lv_iconst (v := 5) hx hb dL_law_176 (by decide) ?_
          refine lv_iadd hx hb dL_law_177 ?_
          refine lv_topi (fun y113 ey114 => ?_)
          obtain ⟨k115, hk116, b117, b118⟩ := hq_add (i) (5)
          rw [← ey114] at hk116 b117 b118
          have hk116 : (y113).toInt = (i).toInt + (5 : Int) + k115 * 4294967296 := hk116
          obtain rfl : k115 = 0 := by omega
          refine va_sld hx hb hX hbl hbA hZ.2.1 (hq_in (by omega) (by omega)) dL_law_178 ?_
          refine lv_topi (fun y119 ey120 => ?_)
          have b121 := hq_rng y119
          have fx128 : V64 (mo) = some (.inr (13, hm_o q (m_tp) (m_sz) (m_fr) (m_bh) (m_hd) (m_ft) (m_fa) (m_le) (m_fo) (m_as) (m_fd) (m_bc) (m_bg) (m_bs) (m_be) (m_b0) (m_b1) (m_cm) (m_hc))) := (hq68.2 (mo) _ ty20 rfl).trans (ho_m)
          refine hp_calli (hp_runV (As := [.int (y83), .int (y92), .int (y101), .int (y110), .int (y119)]) (rest := [.int (r67)]) hx hb hml hown hts (t_X13_feed l D cs B G  V64 n hP.1 q hR (mo) ty20 (y83) (y92) (y101) (y110) (y119) fx128  (by omega) (by omega) (by omega) (by omega) (by omega) (by omega) (by omega) (by omega) ) hZ fx128 cv_L_17 rfl rfl ⟨Nat.le_of_ble_eq_true rfl, Nat.le_of_ble_eq_true rfl⟩ rfl hl.1 rfl (Nat.le_of_ble_eq_true rfl) dL_law_179 ⟨(Nat.le_of_ble_eq_true rfl), (Nat.le_of_ble_eq_true rfl)⟩) hZ (fun r125 V122 n123 _ _ hw124 hZ => ?_)
          obtain ⟨rfl, hq126, ⟨z129, ho130, hi131, hi132⟩, hr127⟩ := hw124
          have hP := hP.trans hq126 (by intro g h; simp_all)
          have b133 := hq_rng z129
          have b134 := hq_rng r125
          refine lv_icmp_eq (tgt := 761) hx hb dL_law_182 (by decide) (fun c135 => ?_) (fun c135 => absurd (Int32.toInt_inj.mp (by omega)) c135)
          obtain ⟨y136, ey137⟩ : ∃ y : Int32, y = i + (6) := ⟨_, rfl⟩
          obtain ⟨k138, hk139, b140, b141⟩ := hq_add (i) (6)
          rw [← ey137] at hk139 b140 b141
          have hk139 : (y136).toInt = (i).toInt + (6) + k138 * 4294967296 := hk139
          refine lv_iinc (v := y136) (lv' := [(3, .int (y136)), (2, .ref (mo)), (1, .ref (a)), (0, .ref (b))]) hx hb dL_law_761 hl (k := 0) rfl (by rw [ey137]; rfl) (by decide) rfl (fun ls hl => ?_)
          refine lv_goto (tgt := 18) hx hb dL_law_764 (by decide) ?_
          have fx142 : V122 (a) = some (.inr (11, [.ref (n), .ref (n + 2), .ref (n + 5), .ref (n + 46), .ref (n + 50), .ref (n + 62), .ref (n + 87), .int (c_fs), .ref (n + 465), .ref (n + 88)])) := (hq126.2 (a) _ ty0 rfl).trans (ho70)
          have fx143 : V122 (n + 2) = some (.inr (7, [.int (q_fk), .int (q_fp), q_tx, q_ou, .int (q_nx), .int (q_tk), .int (q_st), .ref (n + 3)])) := (hq126.2 (n + 2) _ ty3 rfl).trans ((hq68.2 (n + 2) _ ty3 rfl).trans (ho_p))
          have fx144 : V122 (n + 50) = some (.inr (1, [.ref (n + 51), .ref (n + 52), .int (e_fd), .ref (n + 53), .ref (n + 55), .ref (n + 57), e_bk, e_an, e_mk, .int (e_sz), .ref (n + 59), .ref (n + 60), .ref (n + 61)])) := (hq126.2 (n + 50) _ ty7 rfl).trans ((hq68.2 (n + 50) _ ty7 rfl).trans (ho_e))
          have fx145 : V122 (n) = some (.inr (9, [.ref (n + 1), .int (z71)])) := (hq126.2 (n) _ ty1 rfl).trans (ho72)
          have hinv9 : hk_Inv cs G a n mo q V122 := ⟨hP.1, ⟨_, _, _, fx142, Or.inr ⟨rfl, rfl⟩, by omega, hJ.keep hP.1 ty19 (fun x t hx hg => (hq_lgp hq126 hx hg (fun _ => rfl)).trans (hq_lgp hq68 hx hg (fun _ => rfl)))⟩, ⟨_, _, _, _, _, _, _, fx143⟩, ⟨_, _, _, _, _, fx144, by omega, by omega⟩, ⟨_, _, _, _, _, _, _, _, _, _, _, _, _, _, _, _, _, _, _, _, fx145, ho130, by omega, by omega, by omega, by omega, by omega, by omega, by omega, by omega, by omega⟩, (hVQ.keep hR (fun x t hx hg => (hq126.2 x t hx (by simp [hg])).trans (hq68.2 x t hx (by simp [hg])))), (by obtain ⟨fs9, h9⟩ := hst; exact ⟨fs9, ((hq126.2 _ _ (hr_19 hR) rfl).trans (hq68.2 _ _ (hr_19 hR) rfl)).trans h9⟩)⟩
          exact ih _ (by omega) _ _ _ ls (y136) rfl hZ hinv9 (by omega) (by omega) (lv_sub hl [0, 1, 2, 3] rfl)
        ·
          rcases Classical.em (y14 = 1) with h146 | h146
          · refine lv_tableIn (off := 154) (tgt := 187) hx hb dL_law_33 (by rw [h146]; decide) (by rw [h146]; decide) (by rw [h146]; decide) (by decide) ?_
            have b147 : (y14).toInt = 1 := by rw [h146]; decide
            refine lv_aload_n hx hb dL_law_187 rfl (lv_at hl 2 rfl) ?_
            refine lv_aload_n hx hb dL_law_188 rfl (lv_at hl 3 rfl) ?_
            refine lv_iload_n hx hb dL_law_189 rfl (lv_at hl 0 rfl) ?_
            refine lv_iconst (v := 1) hx hb dL_law_190 (by decide) ?_
            refine lv_iadd hx hb dL_law_191 ?_
            refine lv_topi (fun y148 ey149 => ?_)
            obtain ⟨k150, hk151, b152, b153⟩ := hq_add (i) (1)
            rw [← ey149] at hk151 b152 b153
            have hk151 : (y148).toInt = (i).toInt + (1 : Int) + k150 * 4294967296 := hk151
            obtain rfl : k150 = 0 := by omega
            refine va_sld hx hb hX hbl hbA hZ.2.1 (hq_in (by omega) (by omega)) dL_law_192 ?_
            refine lv_topi (fun y154 ey155 => ?_)
            have b156 := hq_rng y154
            refine hp_calli (hp_runV (As := [.int (y154)]) (rest := []) hx hb hml hown hts (t_X11_end_1 l D cs B G  V9 n hP.1  (a) ty0 (y154) ho_a ty1 ty3 ty5 ty6 ty7 ty16 ty17 ty19 ty18 (by omega) ho_n ty2 (by omega) ) hZ ho_a cv_L_18 rfl rfl ⟨Nat.le_of_ble_eq_true rfl, Nat.le_of_ble_eq_true rfl⟩ rfl hl.1 rfl (Nat.le_of_ble_eq_true rfl) dL_law_193 ⟨(Nat.le_of_ble_eq_true rfl), (Nat.le_of_ble_eq_true rfl)⟩) hZ (fun r160 V157 n158 _ _ hw159 hZ => ?_)
            obtain ⟨rfl, hq161, ho163, ⟨z164, ho165, hi166, hi167⟩, hr162⟩ := hw159
            have hP := hP.trans hq161 (by intro g h; simp_all)
            have b168 := hq_rng z164
            have b169 := hq_rng r160
            refine lv_pop hx hb dL_law_196 rfl ?_
            refine lv_aload_n hx hb dL_law_197 rfl (lv_at hl 1 rfl) ?_
            refine lv_aload_n hx hb dL_law_198 rfl (lv_at hl 3 rfl) ?_
            refine lv_iload_n hx hb dL_law_199 rfl (lv_at hl 0 rfl) ?_
            refine lv_iconst (v := 1) hx hb dL_law_200 (by decide) ?_
            refine lv_iadd hx hb dL_law_201 ?_
            refine lv_topi (fun y170 ey171 => ?_)
            obtain ⟨k172, hk173, b174, b175⟩ := hq_add (i) (1)
            rw [← ey171] at hk173 b174 b175
            have hk173 : (y170).toInt = (i).toInt + (1 : Int) + k172 * 4294967296 := hk173
            obtain rfl : k172 = 0 := by omega
            refine va_sld hx hb hX hbl hbA hZ.2.1 (hq_in (by omega) (by omega)) dL_law_202 ?_
            refine lv_topi (fun y176 ey177 => ?_)
            have b178 := hq_rng y176
            have fx185 : V157 (mo) = some (.inr (13, hm_o q (m_tp) (m_sz) (m_fr) (m_bh) (m_hd) (m_ft) (m_fa) (m_le) (m_fo) (m_as) (m_fd) (m_bc) (m_bg) (m_bs) (m_be) (m_b0) (m_b1) (m_cm) (m_hc))) := (hq161.2 (mo) _ ty20 rfl).trans (ho_m)
            refine hp_calli (hp_runV (As := [.int (y176)]) (rest := []) hx hb hml hown hts (t_X13_end l D cs B G  V157 n hP.1 q hR (mo) ty20 (y176) fx185  (by omega) (by omega) (by omega) (by omega) (by omega) (by omega) (by omega) (by omega) ) hZ fx185 cv_L_22 rfl rfl ⟨Nat.le_of_ble_eq_true rfl, Nat.le_of_ble_eq_true rfl⟩ rfl hl.1 rfl (Nat.le_of_ble_eq_true rfl) dL_law_203 ⟨(Nat.le_of_ble_eq_true rfl), (Nat.le_of_ble_eq_true rfl)⟩) hZ (fun r182 V179 n180 _ _ hw181 hZ => ?_)
            obtain ⟨rfl, hq183, ⟨z186, ho187, hi188, hi189⟩, hr184⟩ := hw181
            have hP := hP.trans hq183 (by intro g h; simp_all)
            have b190 := hq_rng z186
            have b191 := hq_rng r182
            refine lv_pop hx hb dL_law_206 rfl ?_
            refine lv_goto (tgt := 761) hx hb dL_law_207 (by decide) ?_
            obtain ⟨y192, ey193⟩ : ∃ y : Int32, y = i + (6) := ⟨_, rfl⟩
            obtain ⟨k194, hk195, b196, b197⟩ := hq_add (i) (6)
            rw [← ey193] at hk195 b196 b197
            have hk195 : (y192).toInt = (i).toInt + (6) + k194 * 4294967296 := hk195
            refine lv_iinc (v := y192) (lv' := [(3, .int (y192)), (2, .ref (mo)), (1, .ref (a)), (0, .ref (b))]) hx hb dL_law_761 hl (k := 0) rfl (by rw [ey193]; rfl) (by decide) rfl (fun ls hl => ?_)
            refine lv_goto (tgt := 18) hx hb dL_law_764 (by decide) ?_
            have fx198 : V179 (a) = some (.inr (11, [.ref (n), .ref (n + 2), .ref (n + 5), .ref (n + 46), .ref (n + 50), .ref (n + 62), .ref (n + 87), .int (c_fs), .ref (n + 465), .ref (n + 88)])) := (hq183.2 (a) _ ty0 rfl).trans (ho163)
            have fx199 : V179 (n + 2) = some (.inr (7, [.int (q_fk), .int (q_fp), q_tx, q_ou, .int (q_nx), .int (q_tk), .int (q_st), .ref (n + 3)])) := (hq183.2 (n + 2) _ ty3 rfl).trans ((hq161.2 (n + 2) _ ty3 rfl).trans (ho_p))
            have fx200 : V179 (n + 50) = some (.inr (1, [.ref (n + 51), .ref (n + 52), .int (e_fd), .ref (n + 53), .ref (n + 55), .ref (n + 57), e_bk, e_an, e_mk, .int (e_sz), .ref (n + 59), .ref (n + 60), .ref (n + 61)])) := (hq183.2 (n + 50) _ ty7 rfl).trans ((hq161.2 (n + 50) _ ty7 rfl).trans (ho_e))
            have fx201 : V179 (n) = some (.inr (9, [.ref (n + 1), .int (z164)])) := (hq183.2 (n) _ ty1 rfl).trans (ho165)
            have hinv9 : hk_Inv cs G a n mo q V179 := ⟨hP.1, ⟨_, _, _, fx198, Or.inr ⟨rfl, rfl⟩, by omega, hJ.keep hP.1 ty19 (fun x t hx hg => (hq_lgp hq183 hx hg (fun _ => rfl)).trans (hq_lgp hq161 hx hg (fun _ => rfl)))⟩, ⟨_, _, _, _, _, _, _, fx199⟩, ⟨_, _, _, _, _, fx200, by omega, by omega⟩, ⟨_, _, _, _, _, _, _, _, _, _, _, _, _, _, _, _, _, _, _, _, fx201, ho187, by omega, by omega, by omega, by omega, by omega, by omega, by omega, by omega, by omega⟩, (hVQ.keep hR (fun x t hx hg => (hq183.2 x t hx (by simp [hg])).trans (hq161.2 x t hx (by simp [hg])))), (by obtain ⟨fs9, h9⟩ := hst; exact ⟨fs9, ((hq183.2 _ _ (hr_19 hR) rfl).trans (hq161.2 _ _ (hr_19 hR) rfl)).trans h9⟩)⟩
            exact ih _ (by omega) _ _ _ ls (y192) rfl hZ hinv9 (by omega) (by omega) (lv_sub hl [0, 1, 2, 3] rfl)
          ·
            rcases Classical.em (y14 = 2) with h202 | h202
            · refine lv_tableIn (off := 177) (tgt := 210) hx hb dL_law_33 (by rw [h202]; decide) (by rw [h202]; decide) (by rw [h202]; decide) (by decide) ?_
              have b203 : (y14).toInt = 2 := by rw [h202]; decide
              refine lv_aload_n hx hb dL_law_210 rfl (lv_at hl 2 rfl) ?_
              refine hp_calli (hp_runV (As := []) (rest := []) hx hb hml hown hts (t_X11_book_1 l D cs B G  V9 n hP.1  (a) ty0 ho_a ty1 ty3 ty5 ty6 ty7 ty16 ty17 (by omega) ho_n ty2 (by omega) ho_p ty4 ho_e ty8 ty9 ty10 ty11 ty12 ty13 ty14 ty15 (by omega) (by omega) ty19 ty18 hJ) hZ ho_a cv_L_23 rfl rfl ⟨Nat.le_of_ble_eq_true rfl, Nat.le_of_ble_eq_true rfl⟩ rfl hl.1 rfl (Nat.le_of_ble_eq_true rfl) dL_law_211 ⟨(Nat.le_of_ble_eq_true rfl), (Nat.le_of_ble_eq_true rfl)⟩) hZ (fun r207 V204 n205 _ _ hw206 hZ => ?_)
              obtain ⟨rfl, hq208, ⟨z210, u211, u212, ho213, hi214, hi215⟩, ⟨z216, ho217, hi218, hi219⟩, ⟨z220, z221, v222, v223, z224, z225, z226, ho227⟩, ⟨z228, ho229, hi230⟩, hr209⟩ := hw206
              have hP := hP.trans hq208 (by intro g h; simp_all)
              have b231 := hq_rng z210
              have b232 := hq_rng z216
              have b233 := hq_rng z220
              have b234 := hq_rng z221
              have b235 := hq_rng z224
              have b236 := hq_rng z225
              have b237 := hq_rng z226
              have b238 := hq_rng z228
              have b239 := hq_rng r207
              refine lv_pop hx hb dL_law_214 rfl ?_
              refine lv_aload_n hx hb dL_law_215 rfl (lv_at hl 1 rfl) ?_
              have hst9 : ∃ fs, V204 (q + 19) = some (.inr (12, fs)) := by obtain ⟨fs9, h9⟩ := hst; exact ⟨fs9, (hq208.2 _ _ (hr_19 hR) rfl).trans h9⟩
              have fx246 : V204 (mo) = some (.inr (13, hm_o q (m_tp) (m_sz) (m_fr) (m_bh) (m_hd) (m_ft) (m_fa) (m_le) (m_fo) (m_as) (m_fd) (m_bc) (m_bg) (m_bs) (m_be) (m_b0) (m_b1) (m_cm) (m_hc))) := (hq208.2 (mo) _ ty20 rfl).trans (ho_m)
              refine hp_calli (hp_runVW (As := []) (rest := []) hx hb hml hown hts (t_X13_book l D cs B G  V204 n hP.1 q hR (mo) ty20 fx246  (by omega) (by omega) (by omega) (by omega) (by omega) (by omega) (by omega) (by omega) (hVQ.keep hR (fun x t hx hg => hq208.2 x t hx (by simp [hg]))) hst9) hZ fx246 cv_L_27 rfl rfl ⟨Nat.le_of_ble_eq_true rfl, Nat.le_of_ble_eq_true rfl⟩ rfl hl.1 rfl (Nat.le_of_ble_eq_true rfl) dL_law_216 ⟨(Nat.le_of_ble_eq_true rfl), (Nat.le_of_ble_eq_true rfl)⟩) hZ (fun r243 V240 n241 _ _ hw242 hZ => ?_)
              obtain ⟨rfl, hq244, ⟨z247, z248, z249, z250, z251, z252, z253, z254, z255, ho256, hi257, hi258, hi259, hi260, hi261⟩, hr245⟩ := hw242
              have hP := hP.trans hq244 (by intro g h; simp_all)
              have b262 := hq_rng z247
              have b263 := hq_rng z248
              have b264 := hq_rng z249
              have b265 := hq_rng z250
              have b266 := hq_rng z251
              have b267 := hq_rng z252
              have b268 := hq_rng z253
              have b269 := hq_rng z254
              have b270 := hq_rng z255
              have b271 := hq_rng r243
              refine lv_pop hx hb dL_law_219 rfl ?_
              refine lv_goto (tgt := 761) hx hb dL_law_220 (by decide) ?_
              obtain ⟨y272, ey273⟩ : ∃ y : Int32, y = i + (6) := ⟨_, rfl⟩
              obtain ⟨k274, hk275, b276, b277⟩ := hq_add (i) (6)
              rw [← ey273] at hk275 b276 b277
              have hk275 : (y272).toInt = (i).toInt + (6) + k274 * 4294967296 := hk275
              refine lv_iinc (v := y272) (lv' := [(3, .int (y272)), (2, .ref (mo)), (1, .ref (a)), (0, .ref (b))]) hx hb dL_law_761 hl (k := 0) rfl (by rw [ey273]; rfl) (by decide) rfl (fun ls hl => ?_)
              refine lv_goto (tgt := 18) hx hb dL_law_764 (by decide) ?_
              have fx278 : V240 (a) = some (.inr (11, [.ref (n), .ref (n + 2), .ref (n + 5), .ref (n + 46), .ref (n + 50), .ref (n + 62), .ref (n + 87), .int (z210), .ref (u211), .ref (u212)])) := (hq244.2 (a) _ ty0 rfl).trans (ho213)
              have fx279 : V240 (n + 2) = some (.inr (7, [.int (z220), .int (z221), v222, v223, .int (z224), .int (z225), .int (z226), .ref (n + 3)])) := (hq244.2 (n + 2) _ ty3 rfl).trans (ho227)
              have fx280 : V240 (n + 50) = some (.inr (1, [.ref (n + 51), .ref (n + 52), .int (e_fd), .ref (n + 53), .ref (n + 55), .ref (n + 57), e_bk, e_an, e_mk, .int (z228), .ref (n + 59), .ref (n + 60), .ref (n + 61)])) := (hq244.2 (n + 50) _ ty7 rfl).trans (ho229)
              have fx281 : V240 (n) = some (.inr (9, [.ref (n + 1), .int (z216)])) := (hq244.2 (n) _ ty1 rfl).trans (ho217)
              have hinv9 : hk_Inv cs G a n mo q V240 := ⟨hP.1, (by rcases hi215 with ⟨h6, h7, h8⟩ | ⟨h6, h7, h8⟩; (· exact ⟨_, _, _, fx278, Or.inr ⟨h6, h7⟩, by omega, by rw [h6]; exact (h8.keep hP.1 ty19 (fun x t hx hg => hq_lgp hq244 hx hg (fun _ => rfl)))⟩); (· exact ⟨_, _, _, fx278, Or.inl ⟨h6, h7⟩, by omega, by rw [h6]; exact (h8.keep hP.1 ty18 (fun x t hx hg => hq_lgp hq244 hx hg (fun _ => rfl)))⟩)), ⟨_, _, _, _, _, _, _, fx279⟩, ⟨_, _, _, _, _, fx280, by omega, by omega⟩, ⟨_, _, _, _, _, _, _, _, _, _, _, _, _, _, _, _, _, _, _, _, fx281, ho256, by omega, by omega, by omega, by omega, by omega, by omega, by omega, by omega, by omega⟩, hr245, (by obtain ⟨fs9, h9⟩ := hst; exact ⟨fs9, ((hq244.2 _ _ (hr_19 hR) rfl).trans (hq208.2 _ _ (hr_19 hR) rfl)).trans h9⟩)⟩
              exact ih _ (by omega) _ _ _ ls (y272) rfl hZ hinv9 (by omega) (by omega) (lv_sub hl [0, 1, 2, 3] rfl)
            ·
              rcases Classical.em (y14 = 3) with h282 | h282
              · refine lv_tableIn (off := 190) (tgt := 223) hx hb dL_law_33 (by rw [h282]; decide) (by rw [h282]; decide) (by rw [h282]; decide) (by decide) ?_
                have b283 : (y14).toInt = 3 := by rw [h282]; decide
                refine lv_aload_n hx hb dL_law_223 rfl (lv_at hl 2 rfl) ?_
                refine lv_aload_n hx hb dL_law_224 rfl (lv_at hl 3 rfl) ?_
                refine lv_iload_n hx hb dL_law_225 rfl (lv_at hl 0 rfl) ?_
                refine lv_iconst (v := 1) hx hb dL_law_226 (by decide) ?_
                refine lv_iadd hx hb dL_law_227 ?_
                refine lv_topi (fun y284 ey285 => ?_)
                obtain ⟨k286, hk287, b288, b289⟩ := hq_add (i) (1)
                rw [← ey285] at hk287 b288 b289
                have hk287 : (y284).toInt = (i).toInt + (1 : Int) + k286 * 4294967296 := hk287
                obtain rfl : k286 = 0 := by omega
                refine va_sld hx hb hX hbl hbA hZ.2.1 (hq_in (by omega) (by omega)) dL_law_228 ?_
                refine lv_topi (fun y290 ey291 => ?_)
                have b292 := hq_rng y290
                refine hp_calli (hp_runV (As := [.int (y290)]) (rest := []) hx hb hml hown hts (t_X11_fault_1 l D cs B G  V9 n hP.1  (a) ty0 (y290) ho_a ty1 ty3 ty5 ty6 ty7 ty16 ty17 ty19 ty18 (by omega) ho_p ty4 ) hZ ho_a cv_L_28 rfl rfl ⟨Nat.le_of_ble_eq_true rfl, Nat.le_of_ble_eq_true rfl⟩ rfl hl.1 rfl (Nat.le_of_ble_eq_true rfl) dL_law_229 ⟨(Nat.le_of_ble_eq_true rfl), (Nat.le_of_ble_eq_true rfl)⟩) hZ (fun r296 V293 n294 _ _ hw295 hZ => ?_)
                obtain ⟨rfl, hq297, ho299, ho300, hr298⟩ := hw295
                have hP := hP.trans hq297 (fun _ _ => rfl)
                have b301 := hq_rng r296
                refine lv_pop hx hb dL_law_232 rfl ?_
                refine lv_aload_n hx hb dL_law_233 rfl (lv_at hl 1 rfl) ?_
                refine lv_aload_n hx hb dL_law_234 rfl (lv_at hl 3 rfl) ?_
                refine lv_iload_n hx hb dL_law_235 rfl (lv_at hl 0 rfl) ?_
                refine lv_iconst (v := 1) hx hb dL_law_236 (by decide) ?_
                refine lv_iadd hx hb dL_law_237 ?_
                refine lv_topi (fun y302 ey303 => ?_)
                obtain ⟨k304, hk305, b306, b307⟩ := hq_add (i) (1)
                rw [← ey303] at hk305 b306 b307
                have hk305 : (y302).toInt = (i).toInt + (1 : Int) + k304 * 4294967296 := hk305
                obtain rfl : k304 = 0 := by omega
                refine va_sld hx hb hX hbl hbA hZ.2.1 (hq_in (by omega) (by omega)) dL_law_238 ?_
                refine lv_topi (fun y308 ey309 => ?_)
                have b310 := hq_rng y308
                have fx317 : V293 (mo) = some (.inr (13, hm_o q (m_tp) (m_sz) (m_fr) (m_bh) (m_hd) (m_ft) (m_fa) (m_le) (m_fo) (m_as) (m_fd) (m_bc) (m_bg) (m_bs) (m_be) (m_b0) (m_b1) (m_cm) (m_hc))) := (hq297.2 (mo) _ ty20 rfl).trans (ho_m)
                refine hp_calli (hp_runV (As := [.int (y308)]) (rest := []) hx hb hml hown hts (t_X13_fault l D cs B G  V293 n hP.1 q hR (mo) ty20 (y308) fx317  (by omega) (by omega) (by omega) (by omega) (by omega) (by omega) (by omega) (by omega) ) hZ fx317 cv_L_31 rfl rfl ⟨Nat.le_of_ble_eq_true rfl, Nat.le_of_ble_eq_true rfl⟩ rfl hl.1 rfl (Nat.le_of_ble_eq_true rfl) dL_law_239 ⟨(Nat.le_of_ble_eq_true rfl), (Nat.le_of_ble_eq_true rfl)⟩) hZ (fun r314 V311 n312 _ _ hw313 hZ => ?_)
                obtain ⟨rfl, hq315, ho318, hr316⟩ := hw313
                have hP := hP.trans hq315 (fun _ _ => rfl)
                have b319 := hq_rng r314
                refine lv_pop hx hb dL_law_242 rfl ?_
                refine lv_goto (tgt := 761) hx hb dL_law_243 (by decide) ?_
                obtain ⟨y320, ey321⟩ : ∃ y : Int32, y = i + (6) := ⟨_, rfl⟩
                obtain ⟨k322, hk323, b324, b325⟩ := hq_add (i) (6)
                rw [← ey321] at hk323 b324 b325
                have hk323 : (y320).toInt = (i).toInt + (6) + k322 * 4294967296 := hk323
                refine lv_iinc (v := y320) (lv' := [(3, .int (y320)), (2, .ref (mo)), (1, .ref (a)), (0, .ref (b))]) hx hb dL_law_761 hl (k := 0) rfl (by rw [ey321]; rfl) (by decide) rfl (fun ls hl => ?_)
                refine lv_goto (tgt := 18) hx hb dL_law_764 (by decide) ?_
                have fx326 : V311 (a) = some (.inr (11, [.ref (n), .ref (n + 2), .ref (n + 5), .ref (n + 46), .ref (n + 50), .ref (n + 62), .ref (n + 87), .int (c_fs), .ref (n + 465), .ref (n + 88)])) := (hq315.2 (a) _ ty0 rfl).trans (ho299)
                have fx327 : V311 (n + 2) = some (.inr (7, [.int (q_fk), .int (q_fp), q_tx, q_ou, .int (q_nx), .int (q_tk), .int (q_st), .ref (n + 3)])) := (hq315.2 (n + 2) _ ty3 rfl).trans (ho300)
                have fx328 : V311 (n + 50) = some (.inr (1, [.ref (n + 51), .ref (n + 52), .int (e_fd), .ref (n + 53), .ref (n + 55), .ref (n + 57), e_bk, e_an, e_mk, .int (e_sz), .ref (n + 59), .ref (n + 60), .ref (n + 61)])) := (hq315.2 (n + 50) _ ty7 rfl).trans ((hq297.2 (n + 50) _ ty7 rfl).trans (ho_e))
                have fx329 : V311 (n) = some (.inr (9, [.ref (n + 1), .int (p_z)])) := (hq315.2 (n) _ ty1 rfl).trans ((hq297.2 (n) _ ty1 rfl).trans (ho_n))
                have hinv9 : hk_Inv cs G a n mo q V311 := ⟨hP.1, ⟨_, _, _, fx326, Or.inr ⟨rfl, rfl⟩, by omega, hJ.keep hP.1 ty19 (fun x t hx hg => (hq_lgp hq315 hx hg (fun _ => rfl)).trans (hq_lgp hq297 hx hg (fun _ => rfl)))⟩, ⟨_, _, _, _, _, _, _, fx327⟩, ⟨_, _, _, _, _, fx328, by omega, by omega⟩, ⟨_, _, _, _, _, _, _, _, _, _, _, _, _, _, _, _, _, _, _, _, fx329, ho318, by omega, by omega, by omega, by omega, by omega, by omega, by omega, by omega, by omega⟩, (hVQ.keep hR (fun x t hx hg => (hq315.2 x t hx (by simp [hg])).trans (hq297.2 x t hx (by simp [hg])))), (by obtain ⟨fs9, h9⟩ := hst; exact ⟨fs9, ((hq315.2 _ _ (hr_19 hR) rfl).trans (hq297.2 _ _ (hr_19 hR) rfl)).trans h9⟩)⟩
                exact ih _ (by omega) _ _ _ ls (y320) rfl hZ hinv9 (by omega) (by omega) (lv_sub hl [0, 1, 2, 3] rfl)
              ·
                rcases Classical.em (y14 = 4) with h330 | h330
                · refine lv_tableIn (off := 213) (tgt := 246) hx hb dL_law_33 (by rw [h330]; decide) (by rw [h330]; decide) (by rw [h330]; decide) (by decide) ?_
                  have b331 : (y14).toInt = 4 := by rw [h330]; decide
                  refine lv_aload_n hx hb dL_law_246 rfl (lv_at hl 2 rfl) ?_
                  refine lv_aload_n hx hb dL_law_247 rfl (lv_at hl 3 rfl) ?_
                  refine lv_iload_n hx hb dL_law_248 rfl (lv_at hl 0 rfl) ?_
                  refine lv_iconst (v := 1) hx hb dL_law_249 (by decide) ?_
                  refine lv_iadd hx hb dL_law_250 ?_
                  refine lv_topi (fun y332 ey333 => ?_)
                  obtain ⟨k334, hk335, b336, b337⟩ := hq_add (i) (1)
                  rw [← ey333] at hk335 b336 b337
                  have hk335 : (y332).toInt = (i).toInt + (1 : Int) + k334 * 4294967296 := hk335
                  obtain rfl : k334 = 0 := by omega
                  refine va_sld hx hb hX hbl hbA hZ.2.1 (hq_in (by omega) (by omega)) dL_law_251 ?_
                  refine lv_topi (fun y338 ey339 => ?_)
                  have b340 := hq_rng y338
                  refine lv_aload_n hx hb dL_law_252 rfl (lv_at hl 3 rfl) ?_
                  refine lv_iload_n hx hb dL_law_253 rfl (lv_at hl 0 rfl) ?_
                  refine lv_iconst (v := 2) hx hb dL_law_254 (by decide) ?_
                  refine lv_iadd hx hb dL_law_255 ?_
                  refine lv_topi (fun y341 ey342 => ?_)
                  obtain ⟨k343, hk344, b345, b346⟩ := hq_add (i) (2)
                  rw [← ey342] at hk344 b345 b346
                  have hk344 : (y341).toInt = (i).toInt + (2 : Int) + k343 * 4294967296 := hk344
                  obtain rfl : k343 = 0 := by omega
                  refine va_sld hx hb hX hbl hbA hZ.2.1 (hq_in (by omega) (by omega)) dL_law_256 ?_
                  refine lv_topi (fun y347 ey348 => ?_)
                  have b349 := hq_rng y347
                  refine hp_calli (hp_runV (As := [.int (y338), .int (y347)]) (rest := []) hx hb hml hown hts (t_X11_verb_1 l D cs B G  V9 n hP.1  (a) ty0 (y338) (y347) ho_a ty1 ty3 ty5 ty6 ty7 ty16 ty17 ty19 ty18 (by omega) ) hZ ho_a cv_L_32 rfl rfl ⟨Nat.le_of_ble_eq_true rfl, Nat.le_of_ble_eq_true rfl⟩ rfl hl.1 rfl (Nat.le_of_ble_eq_true rfl) dL_law_257 ⟨(Nat.le_of_ble_eq_true rfl), (Nat.le_of_ble_eq_true rfl)⟩) hZ (fun r353 V350 n351 _ _ hw352 hZ => ?_)
                  obtain ⟨rfl, hq354, ho356, hr355⟩ := hw352
                  have hP := hP.trans hq354 (fun _ _ => rfl)
                  have b357 := hq_rng r353
                  refine lv_pop hx hb dL_law_260 rfl ?_
                  refine lv_aload_n hx hb dL_law_261 rfl (lv_at hl 1 rfl) ?_
                  refine lv_aload_n hx hb dL_law_262 rfl (lv_at hl 3 rfl) ?_
                  refine lv_iload_n hx hb dL_law_263 rfl (lv_at hl 0 rfl) ?_
                  refine lv_iconst (v := 1) hx hb dL_law_264 (by decide) ?_
                  refine lv_iadd hx hb dL_law_265 ?_
                  refine lv_topi (fun y358 ey359 => ?_)
                  obtain ⟨k360, hk361, b362, b363⟩ := hq_add (i) (1)
                  rw [← ey359] at hk361 b362 b363
                  have hk361 : (y358).toInt = (i).toInt + (1 : Int) + k360 * 4294967296 := hk361
                  obtain rfl : k360 = 0 := by omega
                  refine va_sld hx hb hX hbl hbA hZ.2.1 (hq_in (by omega) (by omega)) dL_law_266 ?_
                  refine lv_topi (fun y364 ey365 => ?_)
                  have b366 := hq_rng y364
                  refine lv_aload_n hx hb dL_law_267 rfl (lv_at hl 3 rfl) ?_
                  refine lv_iload_n hx hb dL_law_268 rfl (lv_at hl 0 rfl) ?_
                  refine lv_iconst (v := 2) hx hb dL_law_269 (by decide) ?_
                  refine lv_iadd hx hb dL_law_270 ?_
                  refine lv_topi (fun y367 ey368 => ?_)
                  obtain ⟨k369, hk370, b371, b372⟩ := hq_add (i) (2)
                  rw [← ey368] at hk370 b371 b372
                  have hk370 : (y367).toInt = (i).toInt + (2 : Int) + k369 * 4294967296 := hk370
                  obtain rfl : k369 = 0 := by omega
                  refine va_sld hx hb hX hbl hbA hZ.2.1 (hq_in (by omega) (by omega)) dL_law_271 ?_
                  refine lv_topi (fun y373 ey374 => ?_)
                  have b375 := hq_rng y373
                  have fx382 : V350 (mo) = some (.inr (13, hm_o q (m_tp) (m_sz) (m_fr) (m_bh) (m_hd) (m_ft) (m_fa) (m_le) (m_fo) (m_as) (m_fd) (m_bc) (m_bg) (m_bs) (m_be) (m_b0) (m_b1) (m_cm) (m_hc))) := (hq354.2 (mo) _ ty20 rfl).trans (ho_m)
                  refine hp_calli (hp_runV (As := [.int (y364), .int (y373)]) (rest := []) hx hb hml hown hts (t_X13_verb l D cs B G  V350 n hP.1 q hR (mo) ty20 (y364) (y373) fx382  (by omega) (by omega) (by omega) (by omega) (by omega) (by omega) (by omega) (by omega) ) hZ fx382 cv_L_36 rfl rfl ⟨Nat.le_of_ble_eq_true rfl, Nat.le_of_ble_eq_true rfl⟩ rfl hl.1 rfl (Nat.le_of_ble_eq_true rfl) dL_law_272 ⟨(Nat.le_of_ble_eq_true rfl), (Nat.le_of_ble_eq_true rfl)⟩) hZ (fun r379 V376 n377 _ _ hw378 hZ => ?_)
                  obtain ⟨rfl, hq380, ho383, hr381⟩ := hw378
                  have hP := hP.trans hq380 (fun _ _ => rfl)
                  have b384 := hq_rng r379
                  refine lv_pop hx hb dL_law_275 rfl ?_
                  refine lv_goto (tgt := 761) hx hb dL_law_276 (by decide) ?_
                  obtain ⟨y385, ey386⟩ : ∃ y : Int32, y = i + (6) := ⟨_, rfl⟩
                  obtain ⟨k387, hk388, b389, b390⟩ := hq_add (i) (6)
                  rw [← ey386] at hk388 b389 b390
                  have hk388 : (y385).toInt = (i).toInt + (6) + k387 * 4294967296 := hk388
                  refine lv_iinc (v := y385) (lv' := [(3, .int (y385)), (2, .ref (mo)), (1, .ref (a)), (0, .ref (b))]) hx hb dL_law_761 hl (k := 0) rfl (by rw [ey386]; rfl) (by decide) rfl (fun ls hl => ?_)
                  refine lv_goto (tgt := 18) hx hb dL_law_764 (by decide) ?_
                  have fx391 : V376 (a) = some (.inr (11, [.ref (n), .ref (n + 2), .ref (n + 5), .ref (n + 46), .ref (n + 50), .ref (n + 62), .ref (n + 87), .int (c_fs), .ref (n + 465), .ref (n + 88)])) := (hq380.2 (a) _ ty0 rfl).trans (ho356)
                  have fx392 : V376 (n + 2) = some (.inr (7, [.int (q_fk), .int (q_fp), q_tx, q_ou, .int (q_nx), .int (q_tk), .int (q_st), .ref (n + 3)])) := (hq380.2 (n + 2) _ ty3 rfl).trans ((hq354.2 (n + 2) _ ty3 rfl).trans (ho_p))
                  have fx393 : V376 (n + 50) = some (.inr (1, [.ref (n + 51), .ref (n + 52), .int (e_fd), .ref (n + 53), .ref (n + 55), .ref (n + 57), e_bk, e_an, e_mk, .int (e_sz), .ref (n + 59), .ref (n + 60), .ref (n + 61)])) := (hq380.2 (n + 50) _ ty7 rfl).trans ((hq354.2 (n + 50) _ ty7 rfl).trans (ho_e))
                  have fx394 : V376 (n) = some (.inr (9, [.ref (n + 1), .int (p_z)])) := (hq380.2 (n) _ ty1 rfl).trans ((hq354.2 (n) _ ty1 rfl).trans (ho_n))
                  have hinv9 : hk_Inv cs G a n mo q V376 := ⟨hP.1, ⟨_, _, _, fx391, Or.inr ⟨rfl, rfl⟩, by omega, hJ.keep hP.1 ty19 (fun x t hx hg => (hq_lgp hq380 hx hg (fun _ => rfl)).trans (hq_lgp hq354 hx hg (fun _ => rfl)))⟩, ⟨_, _, _, _, _, _, _, fx392⟩, ⟨_, _, _, _, _, fx393, by omega, by omega⟩, ⟨_, _, _, _, _, _, _, _, _, _, _, _, _, _, _, _, _, _, _, _, fx394, ho383, by omega, by omega, by omega, by omega, by omega, by omega, by omega, by omega, by omega⟩, (hVQ.keep hR (fun x t hx hg => (hq380.2 x t hx (by simp [hg])).trans (hq354.2 x t hx (by simp [hg])))), (by obtain ⟨fs9, h9⟩ := hst; exact ⟨fs9, ((hq380.2 _ _ (hr_19 hR) rfl).trans (hq354.2 _ _ (hr_19 hR) rfl)).trans h9⟩)⟩
                  exact ih _ (by omega) _ _ _ ls (y385) rfl hZ hinv9 (by omega) (by omega) (lv_sub hl [0, 1, 2, 3] rfl)
                ·
                  rcases Classical.em (y14 = 5) with h395 | h395
                  · refine lv_tableIn (off := 246) (tgt := 279) hx hb dL_law_33 (by rw [h395]; decide) (by rw [h395]; decide) (by rw [h395]; decide) (by decide) ?_
                    have b396 : (y14).toInt = 5 := by rw [h395]; decide
                    refine lv_aload_n hx hb dL_law_279 rfl (lv_at hl 2 rfl) ?_
                    refine lv_aload_n hx hb dL_law_280 rfl (lv_at hl 3 rfl) ?_
                    refine lv_iload_n hx hb dL_law_281 rfl (lv_at hl 0 rfl) ?_
                    refine lv_iconst (v := 1) hx hb dL_law_282 (by decide) ?_
                    refine lv_iadd hx hb dL_law_283 ?_
                    refine lv_topi (fun y397 ey398 => ?_)
                    obtain ⟨k399, hk400, b401, b402⟩ := hq_add (i) (1)
                    rw [← ey398] at hk400 b401 b402
                    have hk400 : (y397).toInt = (i).toInt + (1 : Int) + k399 * 4294967296 := hk400
                    obtain rfl : k399 = 0 := by omega
                    refine va_sld hx hb hX hbl hbA hZ.2.1 (hq_in (by omega) (by omega)) dL_law_284 ?_
                    refine lv_topi (fun y403 ey404 => ?_)
                    have b405 := hq_rng y403
                    refine lv_aload_n hx hb dL_law_285 rfl (lv_at hl 3 rfl) ?_
                    refine lv_iload_n hx hb dL_law_286 rfl (lv_at hl 0 rfl) ?_
                    refine lv_iconst (v := 2) hx hb dL_law_287 (by decide) ?_
                    refine lv_iadd hx hb dL_law_288 ?_
                    refine lv_topi (fun y406 ey407 => ?_)
                    obtain ⟨k408, hk409, b410, b411⟩ := hq_add (i) (2)
                    rw [← ey407] at hk409 b410 b411
                    have hk409 : (y406).toInt = (i).toInt + (2 : Int) + k408 * 4294967296 := hk409
                    obtain rfl : k408 = 0 := by omega
                    refine va_sld hx hb hX hbl hbA hZ.2.1 (hq_in (by omega) (by omega)) dL_law_289 ?_
                    refine lv_topi (fun y412 ey413 => ?_)
                    have b414 := hq_rng y412
                    refine hp_calli (hp_runV (As := [.int (y403), .int (y412)]) (rest := []) hx hb hml hown hts (t_X11_line_1 l D cs B G  V9 n hP.1  (a) ty0 (y403) (y412) ho_a ty1 ty3 ty5 ty6 ty7 ty16 ty17 ty19 ty18 (by omega) ) hZ ho_a cv_L_37 rfl rfl ⟨Nat.le_of_ble_eq_true rfl, Nat.le_of_ble_eq_true rfl⟩ rfl hl.1 rfl (Nat.le_of_ble_eq_true rfl) dL_law_290 ⟨(Nat.le_of_ble_eq_true rfl), (Nat.le_of_ble_eq_true rfl)⟩) hZ (fun r418 V415 n416 _ _ hw417 hZ => ?_)
                    obtain ⟨rfl, hq419, ho421, hr420⟩ := hw417
                    have hP := hP.trans hq419 (fun _ _ => rfl)
                    have b422 := hq_rng r418
                    refine lv_pop hx hb dL_law_293 rfl ?_
                    refine lv_aload_n hx hb dL_law_294 rfl (lv_at hl 1 rfl) ?_
                    refine lv_aload_n hx hb dL_law_295 rfl (lv_at hl 3 rfl) ?_
                    refine lv_iload_n hx hb dL_law_296 rfl (lv_at hl 0 rfl) ?_
                    refine lv_iconst (v := 1) hx hb dL_law_297 (by decide) ?_
                    refine lv_iadd hx hb dL_law_298 ?_
                    refine lv_topi (fun y423 ey424 => ?_)
                    obtain ⟨k425, hk426, b427, b428⟩ := hq_add (i) (1)
                    rw [← ey424] at hk426 b427 b428
                    have hk426 : (y423).toInt = (i).toInt + (1 : Int) + k425 * 4294967296 := hk426
                    obtain rfl : k425 = 0 := by omega
                    refine va_sld hx hb hX hbl hbA hZ.2.1 (hq_in (by omega) (by omega)) dL_law_299 ?_
                    refine lv_topi (fun y429 ey430 => ?_)
                    have b431 := hq_rng y429
                    refine lv_aload_n hx hb dL_law_300 rfl (lv_at hl 3 rfl) ?_
                    refine lv_iload_n hx hb dL_law_301 rfl (lv_at hl 0 rfl) ?_
                    refine lv_iconst (v := 2) hx hb dL_law_302 (by decide) ?_
                    refine lv_iadd hx hb dL_law_303 ?_
                    refine lv_topi (fun y432 ey433 => ?_)
                    obtain ⟨k434, hk435, b436, b437⟩ := hq_add (i) (2)
                    rw [← ey433] at hk435 b436 b437
                    have hk435 : (y432).toInt = (i).toInt + (2 : Int) + k434 * 4294967296 := hk435
                    obtain rfl : k434 = 0 := by omega
                    refine va_sld hx hb hX hbl hbA hZ.2.1 (hq_in (by omega) (by omega)) dL_law_304 ?_
                    refine lv_topi (fun y438 ey439 => ?_)
                    have b440 := hq_rng y438
                    have fx447 : V415 (mo) = some (.inr (13, hm_o q (m_tp) (m_sz) (m_fr) (m_bh) (m_hd) (m_ft) (m_fa) (m_le) (m_fo) (m_as) (m_fd) (m_bc) (m_bg) (m_bs) (m_be) (m_b0) (m_b1) (m_cm) (m_hc))) := (hq419.2 (mo) _ ty20 rfl).trans (ho_m)
                    refine hp_calli (hp_runV (As := [.int (y429), .int (y438)]) (rest := []) hx hb hml hown hts (t_X13_line l D cs B G  V415 n hP.1 q hR (mo) ty20 (y429) (y438) fx447  (by omega) (by omega) (by omega) (by omega) (by omega) (by omega) (by omega) (by omega) ) hZ fx447 cv_L_40 rfl rfl ⟨Nat.le_of_ble_eq_true rfl, Nat.le_of_ble_eq_true rfl⟩ rfl hl.1 rfl (Nat.le_of_ble_eq_true rfl) dL_law_305 ⟨(Nat.le_of_ble_eq_true rfl), (Nat.le_of_ble_eq_true rfl)⟩) hZ (fun r444 V441 n442 _ _ hw443 hZ => ?_)
                    obtain ⟨rfl, hq445, ho448, hr446⟩ := hw443
                    have hP := hP.trans hq445 (fun _ _ => rfl)
                    have b449 := hq_rng r444
                    refine lv_pop hx hb dL_law_308 rfl ?_
                    refine lv_goto (tgt := 761) hx hb dL_law_309 (by decide) ?_
                    obtain ⟨y450, ey451⟩ : ∃ y : Int32, y = i + (6) := ⟨_, rfl⟩
                    obtain ⟨k452, hk453, b454, b455⟩ := hq_add (i) (6)
                    rw [← ey451] at hk453 b454 b455
                    have hk453 : (y450).toInt = (i).toInt + (6) + k452 * 4294967296 := hk453
                    refine lv_iinc (v := y450) (lv' := [(3, .int (y450)), (2, .ref (mo)), (1, .ref (a)), (0, .ref (b))]) hx hb dL_law_761 hl (k := 0) rfl (by rw [ey451]; rfl) (by decide) rfl (fun ls hl => ?_)
                    refine lv_goto (tgt := 18) hx hb dL_law_764 (by decide) ?_
                    have fx456 : V441 (a) = some (.inr (11, [.ref (n), .ref (n + 2), .ref (n + 5), .ref (n + 46), .ref (n + 50), .ref (n + 62), .ref (n + 87), .int (c_fs), .ref (n + 465), .ref (n + 88)])) := (hq445.2 (a) _ ty0 rfl).trans (ho421)
                    have fx457 : V441 (n + 2) = some (.inr (7, [.int (q_fk), .int (q_fp), q_tx, q_ou, .int (q_nx), .int (q_tk), .int (q_st), .ref (n + 3)])) := (hq445.2 (n + 2) _ ty3 rfl).trans ((hq419.2 (n + 2) _ ty3 rfl).trans (ho_p))
                    have fx458 : V441 (n + 50) = some (.inr (1, [.ref (n + 51), .ref (n + 52), .int (e_fd), .ref (n + 53), .ref (n + 55), .ref (n + 57), e_bk, e_an, e_mk, .int (e_sz), .ref (n + 59), .ref (n + 60), .ref (n + 61)])) := (hq445.2 (n + 50) _ ty7 rfl).trans ((hq419.2 (n + 50) _ ty7 rfl).trans (ho_e))
                    have fx459 : V441 (n) = some (.inr (9, [.ref (n + 1), .int (p_z)])) := (hq445.2 (n) _ ty1 rfl).trans ((hq419.2 (n) _ ty1 rfl).trans (ho_n))
                    have hinv9 : hk_Inv cs G a n mo q V441 := ⟨hP.1, ⟨_, _, _, fx456, Or.inr ⟨rfl, rfl⟩, by omega, hJ.keep hP.1 ty19 (fun x t hx hg => (hq_lgp hq445 hx hg (fun _ => rfl)).trans (hq_lgp hq419 hx hg (fun _ => rfl)))⟩, ⟨_, _, _, _, _, _, _, fx457⟩, ⟨_, _, _, _, _, fx458, by omega, by omega⟩, ⟨_, _, _, _, _, _, _, _, _, _, _, _, _, _, _, _, _, _, _, _, fx459, ho448, by omega, by omega, by omega, by omega, by omega, by omega, by omega, by omega, by omega⟩, (hVQ.keep hR (fun x t hx hg => (hq445.2 x t hx (by simp [hg])).trans (hq419.2 x t hx (by simp [hg])))), (by obtain ⟨fs9, h9⟩ := hst; exact ⟨fs9, ((hq445.2 _ _ (hr_19 hR) rfl).trans (hq419.2 _ _ (hr_19 hR) rfl)).trans h9⟩)⟩
                    exact ih _ (by omega) _ _ _ ls (y450) rfl hZ hinv9 (by omega) (by omega) (lv_sub hl [0, 1, 2, 3] rfl)
                  ·
                    rcases Classical.em (y14 = 6) with h460 | h460
                    · refine lv_tableIn (off := 279) (tgt := 312) hx hb dL_law_33 (by rw [h460]; decide) (by rw [h460]; decide) (by rw [h460]; decide) (by decide) ?_
                      have b461 : (y14).toInt = 6 := by rw [h460]; decide
                      refine lv_aload_n hx hb dL_law_312 rfl (lv_at hl 2 rfl) ?_
                      refine lv_aload_n hx hb dL_law_313 rfl (lv_at hl 3 rfl) ?_
                      refine lv_iload_n hx hb dL_law_314 rfl (lv_at hl 0 rfl) ?_
                      refine lv_iconst (v := 1) hx hb dL_law_315 (by decide) ?_
                      refine lv_iadd hx hb dL_law_316 ?_
                      refine lv_topi (fun y462 ey463 => ?_)
                      obtain ⟨k464, hk465, b466, b467⟩ := hq_add (i) (1)
                      rw [← ey463] at hk465 b466 b467
                      have hk465 : (y462).toInt = (i).toInt + (1 : Int) + k464 * 4294967296 := hk465
                      obtain rfl : k464 = 0 := by omega
                      refine va_sld hx hb hX hbl hbA hZ.2.1 (hq_in (by omega) (by omega)) dL_law_317 ?_
                      refine lv_topi (fun y468 ey469 => ?_)
                      have b470 := hq_rng y468
                      refine lv_aload_n hx hb dL_law_318 rfl (lv_at hl 3 rfl) ?_
                      refine lv_iload_n hx hb dL_law_319 rfl (lv_at hl 0 rfl) ?_
                      refine lv_iconst (v := 2) hx hb dL_law_320 (by decide) ?_
                      refine lv_iadd hx hb dL_law_321 ?_
                      refine lv_topi (fun y471 ey472 => ?_)
                      obtain ⟨k473, hk474, b475, b476⟩ := hq_add (i) (2)
                      rw [← ey472] at hk474 b475 b476
                      have hk474 : (y471).toInt = (i).toInt + (2 : Int) + k473 * 4294967296 := hk474
                      obtain rfl : k473 = 0 := by omega
                      refine va_sld hx hb hX hbl hbA hZ.2.1 (hq_in (by omega) (by omega)) dL_law_322 ?_
                      refine lv_topi (fun y477 ey478 => ?_)
                      have b479 := hq_rng y477
                      refine lv_aload_n hx hb dL_law_323 rfl (lv_at hl 3 rfl) ?_
                      refine lv_iload_n hx hb dL_law_324 rfl (lv_at hl 0 rfl) ?_
                      refine lv_iconst (v := 3) hx hb dL_law_325 (by decide) ?_
                      refine lv_iadd hx hb dL_law_326 ?_
                      refine lv_topi (fun y480 ey481 => ?_)
                      obtain ⟨k482, hk483, b484, b485⟩ := hq_add (i) (3)
                      rw [← ey481] at hk483 b484 b485
                      have hk483 : (y480).toInt = (i).toInt + (3 : Int) + k482 * 4294967296 := hk483
                      obtain rfl : k482 = 0 := by omega
                      refine va_sld hx hb hX hbl hbA hZ.2.1 (hq_in (by omega) (by omega)) dL_law_327 ?_
                      refine lv_topi (fun y486 ey487 => ?_)
                      have b488 := hq_rng y486
                      refine hp_calli (hp_runV (As := [.int (y468), .int (y477), .int (y486)]) (rest := []) hx hb hml hown hts (t_X11_forms_1 l D cs B G  V9 n hP.1  (a) ty0 (y468) (y477) (y486) ho_a ty1 ty3 ty5 ty6 ty7 ty16 ty17 ty19 ty18 (by omega) hJ) hZ ho_a cv_L_41 rfl rfl ⟨Nat.le_of_ble_eq_true rfl, Nat.le_of_ble_eq_true rfl⟩ rfl hl.1 rfl (Nat.le_of_ble_eq_true rfl) dL_law_328 ⟨(Nat.le_of_ble_eq_true rfl), (Nat.le_of_ble_eq_true rfl)⟩) hZ (fun r492 V489 n490 _ _ hw491 hZ => ?_)
                      obtain ⟨rfl, hq493, ho495, hr494⟩ := hw491
                      have hP := hP.trans hq493 (by intro g h; simp_all)
                      have b496 := hq_rng r492
                      refine lv_pop hx hb dL_law_331 rfl ?_
                      refine lv_aload_n hx hb dL_law_332 rfl (lv_at hl 1 rfl) ?_
                      refine lv_aload_n hx hb dL_law_333 rfl (lv_at hl 3 rfl) ?_
                      refine lv_iload_n hx hb dL_law_334 rfl (lv_at hl 0 rfl) ?_
                      refine lv_iconst (v := 1) hx hb dL_law_335 (by decide) ?_
                      refine lv_iadd hx hb dL_law_336 ?_
                      refine lv_topi (fun y497 ey498 => ?_)
                      obtain ⟨k499, hk500, b501, b502⟩ := hq_add (i) (1)
                      rw [← ey498] at hk500 b501 b502
                      have hk500 : (y497).toInt = (i).toInt + (1 : Int) + k499 * 4294967296 := hk500
                      obtain rfl : k499 = 0 := by omega
                      refine va_sld hx hb hX hbl hbA hZ.2.1 (hq_in (by omega) (by omega)) dL_law_337 ?_
                      refine lv_topi (fun y503 ey504 => ?_)
                      have b505 := hq_rng y503
                      refine lv_aload_n hx hb dL_law_338 rfl (lv_at hl 3 rfl) ?_
                      refine lv_iload_n hx hb dL_law_339 rfl (lv_at hl 0 rfl) ?_
                      refine lv_iconst (v := 2) hx hb dL_law_340 (by decide) ?_
                      refine lv_iadd hx hb dL_law_341 ?_
                      refine lv_topi (fun y506 ey507 => ?_)
                      obtain ⟨k508, hk509, b510, b511⟩ := hq_add (i) (2)
                      rw [← ey507] at hk509 b510 b511
                      have hk509 : (y506).toInt = (i).toInt + (2 : Int) + k508 * 4294967296 := hk509
                      obtain rfl : k508 = 0 := by omega
                      refine va_sld hx hb hX hbl hbA hZ.2.1 (hq_in (by omega) (by omega)) dL_law_342 ?_
                      refine lv_topi (fun y512 ey513 => ?_)
                      have b514 := hq_rng y512
                      refine lv_aload_n hx hb dL_law_343 rfl (lv_at hl 3 rfl) ?_
                      refine lv_iload_n hx hb dL_law_344 rfl (lv_at hl 0 rfl) ?_
                      refine lv_iconst (v := 3) hx hb dL_law_345 (by decide) ?_
                      refine lv_iadd hx hb dL_law_346 ?_
                      refine lv_topi (fun y515 ey516 => ?_)
                      obtain ⟨k517, hk518, b519, b520⟩ := hq_add (i) (3)
                      rw [← ey516] at hk518 b519 b520
                      have hk518 : (y515).toInt = (i).toInt + (3 : Int) + k517 * 4294967296 := hk518
                      obtain rfl : k517 = 0 := by omega
                      refine va_sld hx hb hX hbl hbA hZ.2.1 (hq_in (by omega) (by omega)) dL_law_347 ?_
                      refine lv_topi (fun y521 ey522 => ?_)
                      have b523 := hq_rng y521
                      have fx530 : V489 (mo) = some (.inr (13, hm_o q (m_tp) (m_sz) (m_fr) (m_bh) (m_hd) (m_ft) (m_fa) (m_le) (m_fo) (m_as) (m_fd) (m_bc) (m_bg) (m_bs) (m_be) (m_b0) (m_b1) (m_cm) (m_hc))) := (hq493.2 (mo) _ ty20 rfl).trans (ho_m)
                      refine hp_calli (hp_runV (As := [.int (y503), .int (y512), .int (y521)]) (rest := []) hx hb hml hown hts (t_X13_forms l D cs B G  V489 n hP.1 q hR (mo) ty20 (y503) (y512) (y521) fx530  (by omega) (by omega) (by omega) (by omega) (by omega) (by omega) (by omega) (by omega) (hVQ.keep hR (fun x t hx hg => hq493.2 x t hx (by simp [hg])))) hZ fx530 cv_L_45 rfl rfl ⟨Nat.le_of_ble_eq_true rfl, Nat.le_of_ble_eq_true rfl⟩ rfl hl.1 rfl (Nat.le_of_ble_eq_true rfl) dL_law_348 ⟨(Nat.le_of_ble_eq_true rfl), (Nat.le_of_ble_eq_true rfl)⟩) hZ (fun r527 V524 n525 _ _ hw526 hZ => ?_)
                      obtain ⟨rfl, hq528, ⟨z531, z532, ho533, hi534, hi535⟩, hr529⟩ := hw526
                      have hP := hP.trans hq528 (by intro g h; simp_all)
                      have b536 := hq_rng z532
                      have b537 := hq_rng z531
                      have b538 := hq_rng r527
                      refine lv_pop hx hb dL_law_351 rfl ?_
                      refine lv_goto (tgt := 761) hx hb dL_law_352 (by decide) ?_
                      obtain ⟨y539, ey540⟩ : ∃ y : Int32, y = i + (6) := ⟨_, rfl⟩
                      obtain ⟨k541, hk542, b543, b544⟩ := hq_add (i) (6)
                      rw [← ey540] at hk542 b543 b544
                      have hk542 : (y539).toInt = (i).toInt + (6) + k541 * 4294967296 := hk542
                      refine lv_iinc (v := y539) (lv' := [(3, .int (y539)), (2, .ref (mo)), (1, .ref (a)), (0, .ref (b))]) hx hb dL_law_761 hl (k := 0) rfl (by rw [ey540]; rfl) (by decide) rfl (fun ls hl => ?_)
                      refine lv_goto (tgt := 18) hx hb dL_law_764 (by decide) ?_
                      have fx545 : V524 (a) = some (.inr (11, [.ref (n), .ref (n + 2), .ref (n + 5), .ref (n + 46), .ref (n + 50), .ref (n + 62), .ref (n + 87), .int (c_fs), .ref (n + 465), .ref (n + 88)])) := (hq528.2 (a) _ ty0 rfl).trans (ho495)
                      have fx546 : V524 (n + 2) = some (.inr (7, [.int (q_fk), .int (q_fp), q_tx, q_ou, .int (q_nx), .int (q_tk), .int (q_st), .ref (n + 3)])) := (hq528.2 (n + 2) _ ty3 rfl).trans ((hq493.2 (n + 2) _ ty3 rfl).trans (ho_p))
                      have fx547 : V524 (n + 50) = some (.inr (1, [.ref (n + 51), .ref (n + 52), .int (e_fd), .ref (n + 53), .ref (n + 55), .ref (n + 57), e_bk, e_an, e_mk, .int (e_sz), .ref (n + 59), .ref (n + 60), .ref (n + 61)])) := (hq528.2 (n + 50) _ ty7 rfl).trans ((hq493.2 (n + 50) _ ty7 rfl).trans (ho_e))
                      have fx548 : V524 (n) = some (.inr (9, [.ref (n + 1), .int (p_z)])) := (hq528.2 (n) _ ty1 rfl).trans ((hq493.2 (n) _ ty1 rfl).trans (ho_n))
                      have hinv9 : hk_Inv cs G a n mo q V524 := ⟨hP.1, ⟨_, _, _, fx545, Or.inr ⟨rfl, rfl⟩, by omega, hJ.keep hP.1 ty19 (fun x t hx hg => (hq_lgp hq528 hx hg (fun _ => rfl)).trans (hq_lgp hq493 hx hg (fun _ => rfl)))⟩, ⟨_, _, _, _, _, _, _, fx546⟩, ⟨_, _, _, _, _, fx547, by omega, by omega⟩, ⟨_, _, _, _, _, _, _, _, _, _, _, _, _, _, _, _, _, _, _, _, fx548, ho533, by omega, by omega, by omega, by omega, by omega, by omega, by omega, by omega, by omega⟩, (hVQ.keep hR (fun x t hx hg => (hq528.2 x t hx (by simp [hg])).trans (hq493.2 x t hx (by simp [hg])))), (by obtain ⟨fs9, h9⟩ := hst; exact ⟨fs9, ((hq528.2 _ _ (hr_19 hR) rfl).trans (hq493.2 _ _ (hr_19 hR) rfl)).trans h9⟩)⟩
                      exact ih _ (by omega) _ _ _ ls (y539) rfl hZ hinv9 (by omega) (by omega) (lv_sub hl [0, 1, 2, 3] rfl)
                    ·
                      rcases Classical.em (y14 = 7) with h549 | h549
                      · refine lv_tableIn (off := 322) (tgt := 355) hx hb dL_law_33 (by rw [h549]; decide) (by rw [h549]; decide) (by rw [h549]; decide) (by decide) ?_
                        have b550 : (y14).toInt = 7 := by rw [h549]; decide
                        refine lv_aload_n hx hb dL_law_355 rfl (lv_at hl 2 rfl) ?_
                        refine lv_aload_n hx hb dL_law_356 rfl (lv_at hl 3 rfl) ?_
                        refine lv_iload_n hx hb dL_law_357 rfl (lv_at hl 0 rfl) ?_
                        refine lv_iconst (v := 1) hx hb dL_law_358 (by decide) ?_
                        refine lv_iadd hx hb dL_law_359 ?_
                        refine lv_topi (fun y551 ey552 => ?_)
                        obtain ⟨k553, hk554, b555, b556⟩ := hq_add (i) (1)
                        rw [← ey552] at hk554 b555 b556
                        have hk554 : (y551).toInt = (i).toInt + (1 : Int) + k553 * 4294967296 := hk554
                        obtain rfl : k553 = 0 := by omega
                        refine va_sld hx hb hX hbl hbA hZ.2.1 (hq_in (by omega) (by omega)) dL_law_360 ?_
                        refine lv_topi (fun y557 ey558 => ?_)
                        have b559 := hq_rng y557
                        refine lv_aload_n hx hb dL_law_361 rfl (lv_at hl 3 rfl) ?_
                        refine lv_iload_n hx hb dL_law_362 rfl (lv_at hl 0 rfl) ?_
                        refine lv_iconst (v := 2) hx hb dL_law_363 (by decide) ?_
                        refine lv_iadd hx hb dL_law_364 ?_
                        refine lv_topi (fun y560 ey561 => ?_)
                        obtain ⟨k562, hk563, b564, b565⟩ := hq_add (i) (2)
                        rw [← ey561] at hk563 b564 b565
                        have hk563 : (y560).toInt = (i).toInt + (2 : Int) + k562 * 4294967296 := hk563
                        obtain rfl : k562 = 0 := by omega
                        refine va_sld hx hb hX hbl hbA hZ.2.1 (hq_in (by omega) (by omega)) dL_law_365 ?_
                        refine lv_topi (fun y566 ey567 => ?_)
                        have b568 := hq_rng y566
                        refine lv_aload_n hx hb dL_law_366 rfl (lv_at hl 3 rfl) ?_
                        refine lv_iload_n hx hb dL_law_367 rfl (lv_at hl 0 rfl) ?_
                        refine lv_iconst (v := 3) hx hb dL_law_368 (by decide) ?_
                        refine lv_iadd hx hb dL_law_369 ?_
                        refine lv_topi (fun y569 ey570 => ?_)
                        obtain ⟨k571, hk572, b573, b574⟩ := hq_add (i) (3)
                        rw [← ey570] at hk572 b573 b574
                        have hk572 : (y569).toInt = (i).toInt + (3 : Int) + k571 * 4294967296 := hk572
                        obtain rfl : k571 = 0 := by omega
                        refine va_sld hx hb hX hbl hbA hZ.2.1 (hq_in (by omega) (by omega)) dL_law_370 ?_
                        refine lv_topi (fun y575 ey576 => ?_)
                        have b577 := hq_rng y575
                        refine lv_aload_n hx hb dL_law_371 rfl (lv_at hl 3 rfl) ?_
                        refine lv_iload_n hx hb dL_law_372 rfl (lv_at hl 0 rfl) ?_
                        refine lv_iconst (v := 4) hx hb dL_law_373 (by decide) ?_
                        refine lv_iadd hx hb dL_law_374 ?_
                        refine lv_topi (fun y578 ey579 => ?_)
                        obtain ⟨k580, hk581, b582, b583⟩ := hq_add (i) (4)
                        rw [← ey579] at hk581 b582 b583
                        have hk581 : (y578).toInt = (i).toInt + (4 : Int) + k580 * 4294967296 := hk581
                        obtain rfl : k580 = 0 := by omega
                        refine va_sld hx hb hX hbl hbA hZ.2.1 (hq_in (by omega) (by omega)) dL_law_375 ?_
                        refine lv_topi (fun y584 ey585 => ?_)
                        have b586 := hq_rng y584
                        refine lv_aload_n hx hb dL_law_376 rfl (lv_at hl 3 rfl) ?_
                        refine lv_iload_n hx hb dL_law_377 rfl (lv_at hl 0 rfl) ?_
                        refine lv_iconst (v := 5) hx hb dL_law_378 (by decide) ?_
                        refine lv_iadd hx hb dL_law_379 ?_
                        refine lv_topi (fun y587 ey588 => ?_)
                        obtain ⟨k589, hk590, b591, b592⟩ := hq_add (i) (5)
                        rw [← ey588] at hk590 b591 b592
                        have hk590 : (y587).toInt = (i).toInt + (5 : Int) + k589 * 4294967296 := hk590
                        obtain rfl : k589 = 0 := by omega
                        refine va_sld hx hb hX hbl hbA hZ.2.1 (hq_in (by omega) (by omega)) dL_law_380 ?_
                        refine lv_topi (fun y593 ey594 => ?_)
                        have b595 := hq_rng y593
                        refine hp_calli (hp_runV (As := [.int (y557), .int (y566), .int (y575), .int (y584), .int (y593)]) (rest := []) hx hb hml hown hts (t_X11_form_1 l D cs B G  V9 n hP.1  (a) ty0 (y557) (y566) (y575) (y584) (y593) ho_a ty1 ty3 ty5 ty6 ty7 ty16 ty17 ty19 ty18 (by omega) hJ) hZ ho_a cv_L_46 rfl rfl ⟨Nat.le_of_ble_eq_true rfl, Nat.le_of_ble_eq_true rfl⟩ rfl hl.1 rfl (Nat.le_of_ble_eq_true rfl) dL_law_381 ⟨(Nat.le_of_ble_eq_true rfl), (Nat.le_of_ble_eq_true rfl)⟩) hZ (fun r599 V596 n597 _ _ hw598 hZ => ?_)
                        obtain ⟨rfl, hq600, ho602, hr601⟩ := hw598
                        have hP := hP.trans hq600 (by intro g h; simp_all)
                        have b603 := hq_rng r599
                        refine lv_pop hx hb dL_law_384 rfl ?_
                        refine lv_aload_n hx hb dL_law_385 rfl (lv_at hl 1 rfl) ?_
                        refine lv_aload_n hx hb dL_law_386 rfl (lv_at hl 3 rfl) ?_
                        refine lv_iload_n hx hb dL_law_387 rfl (lv_at hl 0 rfl) ?_
                        refine lv_iconst (v := 1) hx hb dL_law_388 (by decide) ?_
                        refine lv_iadd hx hb dL_law_389 ?_
                        refine lv_topi (fun y604 ey605 => ?_)
                        obtain ⟨k606, hk607, b608, b609⟩ := hq_add (i) (1)
                        rw [← ey605] at hk607 b608 b609
                        have hk607 : (y604).toInt = (i).toInt + (1 : Int) + k606 * 4294967296 := hk607
                        obtain rfl : k606 = 0 := by omega
                        refine va_sld hx hb hX hbl hbA hZ.2.1 (hq_in (by omega) (by omega)) dL_law_390 ?_
                        refine lv_topi (fun y610 ey611 => ?_)
                        have b612 := hq_rng y610
                        refine lv_aload_n hx hb dL_law_391 rfl (lv_at hl 3 rfl) ?_
                        refine lv_iload_n hx hb dL_law_392 rfl (lv_at hl 0 rfl) ?_
                        refine lv_iconst (v := 2) hx hb dL_law_393 (by decide) ?_
                        refine lv_iadd hx hb dL_law_394 ?_
                        refine lv_topi (fun y613 ey614 => ?_)
                        obtain ⟨k615, hk616, b617, b618⟩ := hq_add (i) (2)
                        rw [← ey614] at hk616 b617 b618
                        have hk616 : (y613).toInt = (i).toInt + (2 : Int) + k615 * 4294967296 := hk616
                        obtain rfl : k615 = 0 := by omega
                        refine va_sld hx hb hX hbl hbA hZ.2.1 (hq_in (by omega) (by omega)) dL_law_395 ?_
                        refine lv_topi (fun y619 ey620 => ?_)
                        have b621 := hq_rng y619
                        refine lv_aload_n hx hb dL_law_396 rfl (lv_at hl 3 rfl) ?_
                        refine lv_iload_n hx hb dL_law_397 rfl (lv_at hl 0 rfl) ?_
                        refine lv_iconst (v := 3) hx hb dL_law_398 (by decide) ?_
                        refine lv_iadd hx hb dL_law_399 ?_
                        refine lv_topi (fun y622 ey623 => ?_)
                        obtain ⟨k624, hk625, b626, b627⟩ := hq_add (i) (3)
                        rw [← ey623] at hk625 b626 b627
                        have hk625 : (y622).toInt = (i).toInt + (3 : Int) + k624 * 4294967296 := hk625
                        obtain rfl : k624 = 0 := by omega
                        refine va_sld hx hb hX hbl hbA hZ.2.1 (hq_in (by omega) (by omega)) dL_law_400 ?_
                        refine lv_topi (fun y628 ey629 => ?_)
                        have b630 := hq_rng y628
                        refine lv_aload_n hx hb dL_law_401 rfl (lv_at hl 3 rfl) ?_
                        refine lv_iload_n hx hb dL_law_402 rfl (lv_at hl 0 rfl) ?_
                        refine lv_iconst (v := 4) hx hb dL_law_403 (by decide) ?_
                        refine lv_iadd hx hb dL_law_404 ?_
                        refine lv_topi (fun y631 ey632 => ?_)
                        obtain ⟨k633, hk634, b635, b636⟩ := hq_add (i) (4)
                        rw [← ey632] at hk634 b635 b636
                        have hk634 : (y631).toInt = (i).toInt + (4 : Int) + k633 * 4294967296 := hk634
                        obtain rfl : k633 = 0 := by omega
                        refine va_sld hx hb hX hbl hbA hZ.2.1 (hq_in (by omega) (by omega)) dL_law_405 ?_
                        refine lv_topi (fun y637 ey638 => ?_)
                        have b639 := hq_rng y637
                        refine lv_aload_n hx hb dL_law_406 rfl (lv_at hl 3 rfl) ?_
                        refine lv_iload_n hx hb dL_law_407 rfl (lv_at hl 0 rfl) ?_
                        refine lv_iconst (v := 5) hx hb dL_law_408 (by decide) ?_
                        refine lv_iadd hx hb dL_law_409 ?_
                        refine lv_topi (fun y640 ey641 => ?_)
                        obtain ⟨k642, hk643, b644, b645⟩ := hq_add (i) (5)
                        rw [← ey641] at hk643 b644 b645
                        have hk643 : (y640).toInt = (i).toInt + (5 : Int) + k642 * 4294967296 := hk643
                        obtain rfl : k642 = 0 := by omega
                        refine va_sld hx hb hX hbl hbA hZ.2.1 (hq_in (by omega) (by omega)) dL_law_410 ?_
                        refine lv_topi (fun y646 ey647 => ?_)
                        have b648 := hq_rng y646
                        have fx655 : V596 (mo) = some (.inr (13, hm_o q (m_tp) (m_sz) (m_fr) (m_bh) (m_hd) (m_ft) (m_fa) (m_le) (m_fo) (m_as) (m_fd) (m_bc) (m_bg) (m_bs) (m_be) (m_b0) (m_b1) (m_cm) (m_hc))) := (hq600.2 (mo) _ ty20 rfl).trans (ho_m)
                        refine hp_calli (hp_runV (As := [.int (y610), .int (y619), .int (y628), .int (y637), .int (y646)]) (rest := []) hx hb hml hown hts (t_X13_form l D cs B G  V596 n hP.1 q hR (mo) ty20 (y610) (y619) (y628) (y637) (y646) fx655  (by omega) (by omega) (by omega) (by omega) (by omega) (by omega) (by omega) (by omega) (hVQ.keep hR (fun x t hx hg => hq600.2 x t hx (by simp [hg])))) hZ fx655 cv_L_49 rfl rfl ⟨Nat.le_of_ble_eq_true rfl, Nat.le_of_ble_eq_true rfl⟩ rfl hl.1 rfl (Nat.le_of_ble_eq_true rfl) dL_law_411 ⟨(Nat.le_of_ble_eq_true rfl), (Nat.le_of_ble_eq_true rfl)⟩) hZ (fun r652 V649 n650 _ _ hw651 hZ => ?_)
                        obtain ⟨rfl, hq653, ⟨z656, z657, ho658, hi659, hi660⟩, hr654⟩ := hw651
                        have hP := hP.trans hq653 (by intro g h; simp_all)
                        have b661 := hq_rng z657
                        have b662 := hq_rng z656
                        have b663 := hq_rng r652
                        refine lv_pop hx hb dL_law_414 rfl ?_
                        refine lv_goto (tgt := 761) hx hb dL_law_415 (by decide) ?_
                        obtain ⟨y664, ey665⟩ : ∃ y : Int32, y = i + (6) := ⟨_, rfl⟩
                        obtain ⟨k666, hk667, b668, b669⟩ := hq_add (i) (6)
                        rw [← ey665] at hk667 b668 b669
                        have hk667 : (y664).toInt = (i).toInt + (6) + k666 * 4294967296 := hk667
                        refine lv_iinc (v := y664) (lv' := [(3, .int (y664)), (2, .ref (mo)), (1, .ref (a)), (0, .ref (b))]) hx hb dL_law_761 hl (k := 0) rfl (by rw [ey665]; rfl) (by decide) rfl (fun ls hl => ?_)
                        refine lv_goto (tgt := 18) hx hb dL_law_764 (by decide) ?_
                        have fx670 : V649 (a) = some (.inr (11, [.ref (n), .ref (n + 2), .ref (n + 5), .ref (n + 46), .ref (n + 50), .ref (n + 62), .ref (n + 87), .int (c_fs), .ref (n + 465), .ref (n + 88)])) := (hq653.2 (a) _ ty0 rfl).trans (ho602)
                        have fx671 : V649 (n + 2) = some (.inr (7, [.int (q_fk), .int (q_fp), q_tx, q_ou, .int (q_nx), .int (q_tk), .int (q_st), .ref (n + 3)])) := (hq653.2 (n + 2) _ ty3 rfl).trans ((hq600.2 (n + 2) _ ty3 rfl).trans (ho_p))
                        have fx672 : V649 (n + 50) = some (.inr (1, [.ref (n + 51), .ref (n + 52), .int (e_fd), .ref (n + 53), .ref (n + 55), .ref (n + 57), e_bk, e_an, e_mk, .int (e_sz), .ref (n + 59), .ref (n + 60), .ref (n + 61)])) := (hq653.2 (n + 50) _ ty7 rfl).trans ((hq600.2 (n + 50) _ ty7 rfl).trans (ho_e))
                        have fx673 : V649 (n) = some (.inr (9, [.ref (n + 1), .int (p_z)])) := (hq653.2 (n) _ ty1 rfl).trans ((hq600.2 (n) _ ty1 rfl).trans (ho_n))
                        have hinv9 : hk_Inv cs G a n mo q V649 := ⟨hP.1, ⟨_, _, _, fx670, Or.inr ⟨rfl, rfl⟩, by omega, hJ.keep hP.1 ty19 (fun x t hx hg => (hq_lgp hq653 hx hg (fun _ => rfl)).trans (hq_lgp hq600 hx hg (fun _ => rfl)))⟩, ⟨_, _, _, _, _, _, _, fx671⟩, ⟨_, _, _, _, _, fx672, by omega, by omega⟩, ⟨_, _, _, _, _, _, _, _, _, _, _, _, _, _, _, _, _, _, _, _, fx673, ho658, by omega, by omega, by omega, by omega, by omega, by omega, by omega, by omega, by omega⟩, (hVQ.keep hR (fun x t hx hg => (hq653.2 x t hx (by simp [hg])).trans (hq600.2 x t hx (by simp [hg])))), (by obtain ⟨fs9, h9⟩ := hst; exact ⟨fs9, ((hq653.2 _ _ (hr_19 hR) rfl).trans (hq600.2 _ _ (hr_19 hR) rfl)).trans h9⟩)⟩
                        exact ih _ (by omega) _ _ _ ls (y664) rfl hZ hinv9 (by omega) (by omega) (lv_sub hl [0, 1, 2, 3] rfl)
                      ·
                        rcases Classical.em (y14 = 8) with h674 | h674
                        · refine lv_tableIn (off := 385) (tgt := 418) hx hb dL_law_33 (by rw [h674]; decide) (by rw [h674]; decide) (by rw [h674]; decide) (by decide) ?_
                          have b675 : (y14).toInt = 8 := by rw [h674]; decide
                          refine lv_aload_n hx hb dL_law_418 rfl (lv_at hl 2 rfl) ?_
                          refine lv_aload_n hx hb dL_law_419 rfl (lv_at hl 3 rfl) ?_
                          refine lv_iload_n hx hb dL_law_420 rfl (lv_at hl 0 rfl) ?_
                          refine lv_iconst (v := 1) hx hb dL_law_421 (by decide) ?_
                          refine lv_iadd hx hb dL_law_422 ?_
                          refine lv_topi (fun y676 ey677 => ?_)
                          obtain ⟨k678, hk679, b680, b681⟩ := hq_add (i) (1)
                          rw [← ey677] at hk679 b680 b681
                          have hk679 : (y676).toInt = (i).toInt + (1 : Int) + k678 * 4294967296 := hk679
                          obtain rfl : k678 = 0 := by omega
                          refine va_sld hx hb hX hbl hbA hZ.2.1 (hq_in (by omega) (by omega)) dL_law_423 ?_
                          refine lv_topi (fun y682 ey683 => ?_)
                          have b684 := hq_rng y682
                          refine lv_aload_n hx hb dL_law_424 rfl (lv_at hl 3 rfl) ?_
                          refine lv_iload_n hx hb dL_law_425 rfl (lv_at hl 0 rfl) ?_
                          refine lv_iconst (v := 2) hx hb dL_law_426 (by decide) ?_
                          refine lv_iadd hx hb dL_law_427 ?_
                          refine lv_topi (fun y685 ey686 => ?_)
                          obtain ⟨k687, hk688, b689, b690⟩ := hq_add (i) (2)
                          rw [← ey686] at hk688 b689 b690
                          have hk688 : (y685).toInt = (i).toInt + (2 : Int) + k687 * 4294967296 := hk688
                          obtain rfl : k687 = 0 := by omega
                          refine va_sld hx hb hX hbl hbA hZ.2.1 (hq_in (by omega) (by omega)) dL_law_428 ?_
                          refine lv_topi (fun y691 ey692 => ?_)
                          have b693 := hq_rng y691
                          refine lv_aload_n hx hb dL_law_429 rfl (lv_at hl 3 rfl) ?_
                          refine lv_iload_n hx hb dL_law_430 rfl (lv_at hl 0 rfl) ?_
                          refine lv_iconst (v := 3) hx hb dL_law_431 (by decide) ?_
                          refine lv_iadd hx hb dL_law_432 ?_
                          refine lv_topi (fun y694 ey695 => ?_)
                          obtain ⟨k696, hk697, b698, b699⟩ := hq_add (i) (3)
                          rw [← ey695] at hk697 b698 b699
                          have hk697 : (y694).toInt = (i).toInt + (3 : Int) + k696 * 4294967296 := hk697
                          obtain rfl : k696 = 0 := by omega
                          refine va_sld hx hb hX hbl hbA hZ.2.1 (hq_in (by omega) (by omega)) dL_law_433 ?_
                          refine lv_topi (fun y700 ey701 => ?_)
                          have b702 := hq_rng y700
                          refine lv_aload_n hx hb dL_law_434 rfl (lv_at hl 3 rfl) ?_
                          refine lv_iload_n hx hb dL_law_435 rfl (lv_at hl 0 rfl) ?_
                          refine lv_iconst (v := 4) hx hb dL_law_436 (by decide) ?_
                          refine lv_iadd hx hb dL_law_437 ?_
                          refine lv_topi (fun y703 ey704 => ?_)
                          obtain ⟨k705, hk706, b707, b708⟩ := hq_add (i) (4)
                          rw [← ey704] at hk706 b707 b708
                          have hk706 : (y703).toInt = (i).toInt + (4 : Int) + k705 * 4294967296 := hk706
                          obtain rfl : k705 = 0 := by omega
                          refine va_sld hx hb hX hbl hbA hZ.2.1 (hq_in (by omega) (by omega)) dL_law_438 ?_
                          refine lv_topi (fun y709 ey710 => ?_)
                          have b711 := hq_rng y709
                          refine lv_aload_n hx hb dL_law_439 rfl (lv_at hl 3 rfl) ?_
                          refine lv_iload_n hx hb dL_law_440 rfl (lv_at hl 0 rfl) ?_
                          refine lv_iconst (v := 5) hx hb dL_law_441 (by decide) ?_
                          refine lv_iadd hx hb dL_law_442 ?_
                          refine lv_topi (fun y712 ey713 => ?_)
                          obtain ⟨k714, hk715, b716, b717⟩ := hq_add (i) (5)
                          rw [← ey713] at hk715 b716 b717
                          have hk715 : (y712).toInt = (i).toInt + (5 : Int) + k714 * 4294967296 := hk715
                          obtain rfl : k714 = 0 := by omega
                          refine va_sld hx hb hX hbl hbA hZ.2.1 (hq_in (by omega) (by omega)) dL_law_443 ?_
                          refine lv_topi (fun y718 ey719 => ?_)
                          have b720 := hq_rng y718
                          refine hp_calli (hp_runV (As := [.int (y682), .int (y691), .int (y700), .int (y709), .int (y718)]) (rest := []) hx hb hml hown hts (t_X11_row_1 l D cs B G  V9 n hP.1  (a) ty0 (y682) (y691) (y700) (y709) (y718) ho_a ty1 ty3 ty5 ty6 ty7 ty16 ty17 ty19 ty18 (by omega) hJ) hZ ho_a cv_L_50 rfl rfl ⟨Nat.le_of_ble_eq_true rfl, Nat.le_of_ble_eq_true rfl⟩ rfl hl.1 rfl (Nat.le_of_ble_eq_true rfl) dL_law_444 ⟨(Nat.le_of_ble_eq_true rfl), (Nat.le_of_ble_eq_true rfl)⟩) hZ (fun r724 V721 n722 _ _ hw723 hZ => ?_)
                          obtain ⟨rfl, hq725, ho727, hr726⟩ := hw723
                          have hP := hP.trans hq725 (by intro g h; simp_all)
                          have b728 := hq_rng r724
                          refine lv_pop hx hb dL_law_447 rfl ?_
                          refine lv_aload_n hx hb dL_law_448 rfl (lv_at hl 1 rfl) ?_
                          refine lv_aload_n hx hb dL_law_449 rfl (lv_at hl 3 rfl) ?_
                          refine lv_iload_n hx hb dL_law_450 rfl (lv_at hl 0 rfl) ?_
                          refine lv_iconst (v := 1) hx hb dL_law_451 (by decide) ?_
                          refine lv_iadd hx hb dL_law_452 ?_
                          refine lv_topi (fun y729 ey730 => ?_)
                          obtain ⟨k731, hk732, b733, b734⟩ := hq_add (i) (1)
                          rw [← ey730] at hk732 b733 b734
                          have hk732 : (y729).toInt = (i).toInt + (1 : Int) + k731 * 4294967296 := hk732
                          obtain rfl : k731 = 0 := by omega
                          refine va_sld hx hb hX hbl hbA hZ.2.1 (hq_in (by omega) (by omega)) dL_law_453 ?_
                          refine lv_topi (fun y735 ey736 => ?_)
                          have b737 := hq_rng y735
                          refine lv_aload_n hx hb dL_law_454 rfl (lv_at hl 3 rfl) ?_
                          refine lv_iload_n hx hb dL_law_455 rfl (lv_at hl 0 rfl) ?_
                          refine lv_iconst (v := 2) hx hb dL_law_456 (by decide) ?_
                          refine lv_iadd hx hb dL_law_457 ?_
                          refine lv_topi (fun y738 ey739 => ?_)
                          obtain ⟨k740, hk741, b742, b743⟩ := hq_add (i) (2)
                          rw [← ey739] at hk741 b742 b743
                          have hk741 : (y738).toInt = (i).toInt + (2 : Int) + k740 * 4294967296 := hk741
                          obtain rfl : k740 = 0 := by omega
                          refine va_sld hx hb hX hbl hbA hZ.2.1 (hq_in (by omega) (by omega)) dL_law_458 ?_
                          refine lv_topi (fun y744 ey745 => ?_)
                          have b746 := hq_rng y744
                          refine lv_aload_n hx hb dL_law_459 rfl (lv_at hl 3 rfl) ?_
                          refine lv_iload_n hx hb dL_law_460 rfl (lv_at hl 0 rfl) ?_
                          refine lv_iconst (v := 3) hx hb dL_law_461 (by decide) ?_
                          refine lv_iadd hx hb dL_law_462 ?_
                          refine lv_topi (fun y747 ey748 => ?_)
                          obtain ⟨k749, hk750, b751, b752⟩ := hq_add (i) (3)
                          rw [← ey748] at hk750 b751 b752
                          have hk750 : (y747).toInt = (i).toInt + (3 : Int) + k749 * 4294967296 := hk750
                          obtain rfl : k749 = 0 := by omega
                          refine va_sld hx hb hX hbl hbA hZ.2.1 (hq_in (by omega) (by omega)) dL_law_463 ?_
                          refine lv_topi (fun y753 ey754 => ?_)
                          have b755 := hq_rng y753
                          refine lv_aload_n hx hb dL_law_464 rfl (lv_at hl 3 rfl) ?_
                          refine lv_iload_n hx hb dL_law_465 rfl (lv_at hl 0 rfl) ?_
                          refine lv_iconst (v := 4) hx hb dL_law_466 (by decide) ?_
                          refine lv_iadd hx hb dL_law_467 ?_
                          refine lv_topi (fun y756 ey757 => ?_)
                          obtain ⟨k758, hk759, b760, b761⟩ := hq_add (i) (4)
                          rw [← ey757] at hk759 b760 b761
                          have hk759 : (y756).toInt = (i).toInt + (4 : Int) + k758 * 4294967296 := hk759
                          obtain rfl : k758 = 0 := by omega
                          refine va_sld hx hb hX hbl hbA hZ.2.1 (hq_in (by omega) (by omega)) dL_law_468 ?_
                          refine lv_topi (fun y762 ey763 => ?_)
                          have b764 := hq_rng y762
                          refine lv_aload_n hx hb dL_law_469 rfl (lv_at hl 3 rfl) ?_
                          refine lv_iload_n hx hb dL_law_470 rfl (lv_at hl 0 rfl) ?_
                          refine lv_iconst (v := 5) hx hb dL_law_471 (by decide) ?_
                          refine lv_iadd hx hb dL_law_472 ?_
                          refine lv_topi (fun y765 ey766 => ?_)
                          obtain ⟨k767, hk768, b769, b770⟩ := hq_add (i) (5)
                          rw [← ey766] at hk768 b769 b770
                          have hk768 : (y765).toInt = (i).toInt + (5 : Int) + k767 * 4294967296 := hk768
                          obtain rfl : k767 = 0 := by omega
                          refine va_sld hx hb hX hbl hbA hZ.2.1 (hq_in (by omega) (by omega)) dL_law_473 ?_
                          refine lv_topi (fun y771 ey772 => ?_)
                          have b773 := hq_rng y771
                          have fx780 : V721 (mo) = some (.inr (13, hm_o q (m_tp) (m_sz) (m_fr) (m_bh) (m_hd) (m_ft) (m_fa) (m_le) (m_fo) (m_as) (m_fd) (m_bc) (m_bg) (m_bs) (m_be) (m_b0) (m_b1) (m_cm) (m_hc))) := (hq725.2 (mo) _ ty20 rfl).trans (ho_m)
                          refine hp_calli (hp_runV (As := [.int (y735), .int (y744), .int (y753), .int (y762), .int (y771)]) (rest := []) hx hb hml hown hts (t_X13_row l D cs B G  V721 n hP.1 q hR (mo) ty20 (y735) (y744) (y753) (y762) (y771) fx780  (by omega) (by omega) (by omega) (by omega) (by omega) (by omega) (by omega) (by omega) (hVQ.keep hR (fun x t hx hg => hq725.2 x t hx (by simp [hg])))) hZ fx780 cv_L_53 rfl rfl ⟨Nat.le_of_ble_eq_true rfl, Nat.le_of_ble_eq_true rfl⟩ rfl hl.1 rfl (Nat.le_of_ble_eq_true rfl) dL_law_474 ⟨(Nat.le_of_ble_eq_true rfl), (Nat.le_of_ble_eq_true rfl)⟩) hZ (fun r777 V774 n775 _ _ hw776 hZ => ?_)
                          obtain ⟨rfl, hq778, ⟨z781, z782, ho783, hi784, hi785⟩, hr779⟩ := hw776
                          have hP := hP.trans hq778 (by intro g h; simp_all)
                          have b786 := hq_rng z782
                          have b787 := hq_rng z781
                          have b788 := hq_rng r777
                          refine lv_pop hx hb dL_law_477 rfl ?_
                          refine lv_goto (tgt := 761) hx hb dL_law_478 (by decide) ?_
                          obtain ⟨y789, ey790⟩ : ∃ y : Int32, y = i + (6) := ⟨_, rfl⟩
                          obtain ⟨k791, hk792, b793, b794⟩ := hq_add (i) (6)
                          rw [← ey790] at hk792 b793 b794
                          have hk792 : (y789).toInt = (i).toInt + (6) + k791 * 4294967296 := hk792
                          refine lv_iinc (v := y789) (lv' := [(3, .int (y789)), (2, .ref (mo)), (1, .ref (a)), (0, .ref (b))]) hx hb dL_law_761 hl (k := 0) rfl (by rw [ey790]; rfl) (by decide) rfl (fun ls hl => ?_)
                          refine lv_goto (tgt := 18) hx hb dL_law_764 (by decide) ?_
                          have fx795 : V774 (a) = some (.inr (11, [.ref (n), .ref (n + 2), .ref (n + 5), .ref (n + 46), .ref (n + 50), .ref (n + 62), .ref (n + 87), .int (c_fs), .ref (n + 465), .ref (n + 88)])) := (hq778.2 (a) _ ty0 rfl).trans (ho727)
                          have fx796 : V774 (n + 2) = some (.inr (7, [.int (q_fk), .int (q_fp), q_tx, q_ou, .int (q_nx), .int (q_tk), .int (q_st), .ref (n + 3)])) := (hq778.2 (n + 2) _ ty3 rfl).trans ((hq725.2 (n + 2) _ ty3 rfl).trans (ho_p))
                          have fx797 : V774 (n + 50) = some (.inr (1, [.ref (n + 51), .ref (n + 52), .int (e_fd), .ref (n + 53), .ref (n + 55), .ref (n + 57), e_bk, e_an, e_mk, .int (e_sz), .ref (n + 59), .ref (n + 60), .ref (n + 61)])) := (hq778.2 (n + 50) _ ty7 rfl).trans ((hq725.2 (n + 50) _ ty7 rfl).trans (ho_e))
                          have fx798 : V774 (n) = some (.inr (9, [.ref (n + 1), .int (p_z)])) := (hq778.2 (n) _ ty1 rfl).trans ((hq725.2 (n) _ ty1 rfl).trans (ho_n))
                          have hinv9 : hk_Inv cs G a n mo q V774 := ⟨hP.1, ⟨_, _, _, fx795, Or.inr ⟨rfl, rfl⟩, by omega, hJ.keep hP.1 ty19 (fun x t hx hg => (hq_lgp hq778 hx hg (fun _ => rfl)).trans (hq_lgp hq725 hx hg (fun _ => rfl)))⟩, ⟨_, _, _, _, _, _, _, fx796⟩, ⟨_, _, _, _, _, fx797, by omega, by omega⟩, ⟨_, _, _, _, _, _, _, _, _, _, _, _, _, _, _, _, _, _, _, _, fx798, ho783, by omega, by omega, by omega, by omega, by omega, by omega, by omega, by omega, by omega⟩, (hVQ.keep hR (fun x t hx hg => (hq778.2 x t hx (by simp [hg])).trans (hq725.2 x t hx (by simp [hg])))), (by obtain ⟨fs9, h9⟩ := hst; exact ⟨fs9, ((hq778.2 _ _ (hr_19 hR) rfl).trans (hq725.2 _ _ (hr_19 hR) rfl)).trans h9⟩)⟩
                          exact ih _ (by omega) _ _ _ ls (y789) rfl hZ hinv9 (by omega) (by omega) (lv_sub hl [0, 1, 2, 3] rfl)
                        ·
                          rcases Classical.em (y14 = 9) with h799 | h799
                          · refine lv_tableIn (off := 448) (tgt := 481) hx hb dL_law_33 (by rw [h799]; decide) (by rw [h799]; decide) (by rw [h799]; decide) (by decide) ?_
                            have b800 : (y14).toInt = 9 := by rw [h799]; decide
                            refine lv_aload_n hx hb dL_law_481 rfl (lv_at hl 2 rfl) ?_
                            refine lv_aload_n hx hb dL_law_482 rfl (lv_at hl 3 rfl) ?_
                            refine lv_iload_n hx hb dL_law_483 rfl (lv_at hl 0 rfl) ?_
                            refine lv_iconst (v := 1) hx hb dL_law_484 (by decide) ?_
                            refine lv_iadd hx hb dL_law_485 ?_
                            refine lv_topi (fun y801 ey802 => ?_)
                            obtain ⟨k803, hk804, b805, b806⟩ := hq_add (i) (1)
                            rw [← ey802] at hk804 b805 b806
                            have hk804 : (y801).toInt = (i).toInt + (1 : Int) + k803 * 4294967296 := hk804
                            obtain rfl : k803 = 0 := by omega
                            refine va_sld hx hb hX hbl hbA hZ.2.1 (hq_in (by omega) (by omega)) dL_law_486 ?_
                            refine lv_topi (fun y807 ey808 => ?_)
                            have b809 := hq_rng y807
                            refine lv_aload_n hx hb dL_law_487 rfl (lv_at hl 3 rfl) ?_
                            refine lv_iload_n hx hb dL_law_488 rfl (lv_at hl 0 rfl) ?_
                            refine lv_iconst (v := 2) hx hb dL_law_489 (by decide) ?_
                            refine lv_iadd hx hb dL_law_490 ?_
                            refine lv_topi (fun y810 ey811 => ?_)
                            obtain ⟨k812, hk813, b814, b815⟩ := hq_add (i) (2)
                            rw [← ey811] at hk813 b814 b815
                            have hk813 : (y810).toInt = (i).toInt + (2 : Int) + k812 * 4294967296 := hk813
                            obtain rfl : k812 = 0 := by omega
                            refine va_sld hx hb hX hbl hbA hZ.2.1 (hq_in (by omega) (by omega)) dL_law_491 ?_
                            refine lv_topi (fun y816 ey817 => ?_)
                            have b818 := hq_rng y816
                            refine lv_aload_n hx hb dL_law_492 rfl (lv_at hl 3 rfl) ?_
                            refine lv_iload_n hx hb dL_law_493 rfl (lv_at hl 0 rfl) ?_
                            refine lv_iconst (v := 3) hx hb dL_law_494 (by decide) ?_
                            refine lv_iadd hx hb dL_law_495 ?_
                            refine lv_topi (fun y819 ey820 => ?_)
                            obtain ⟨k821, hk822, b823, b824⟩ := hq_add (i) (3)
                            rw [← ey820] at hk822 b823 b824
                            have hk822 : (y819).toInt = (i).toInt + (3 : Int) + k821 * 4294967296 := hk822
                            obtain rfl : k821 = 0 := by omega
                            refine va_sld hx hb hX hbl hbA hZ.2.1 (hq_in (by omega) (by omega)) dL_law_496 ?_
                            refine lv_topi (fun y825 ey826 => ?_)
                            have b827 := hq_rng y825
                            refine hp_calli (hp_runV (As := [.int (y807), .int (y816), .int (y825)]) (rest := []) hx hb hml hown hts (t_X11_rivals_1 l D cs B G  V9 n hP.1  (a) ty0 (y807) (y816) (y825) ho_a ty1 ty3 ty5 ty6 ty7 ty16 ty17 ty19 ty18 (by omega) ) hZ ho_a cv_L_54 rfl rfl ⟨Nat.le_of_ble_eq_true rfl, Nat.le_of_ble_eq_true rfl⟩ rfl hl.1 rfl (Nat.le_of_ble_eq_true rfl) dL_law_497 ⟨(Nat.le_of_ble_eq_true rfl), (Nat.le_of_ble_eq_true rfl)⟩) hZ (fun r831 V828 n829 _ _ hw830 hZ => ?_)
                            obtain ⟨rfl, hq832, ho834, hr833⟩ := hw830
                            have hP := hP.trans hq832 (fun _ _ => rfl)
                            have b835 := hq_rng r831
                            refine lv_pop hx hb dL_law_500 rfl ?_
                            refine lv_aload_n hx hb dL_law_501 rfl (lv_at hl 1 rfl) ?_
                            refine lv_aload_n hx hb dL_law_502 rfl (lv_at hl 3 rfl) ?_
                            refine lv_iload_n hx hb dL_law_503 rfl (lv_at hl 0 rfl) ?_
                            refine lv_iconst (v := 1) hx hb dL_law_504 (by decide) ?_
                            refine lv_iadd hx hb dL_law_505 ?_
                            refine lv_topi (fun y836 ey837 => ?_)
                            obtain ⟨k838, hk839, b840, b841⟩ := hq_add (i) (1)
                            rw [← ey837] at hk839 b840 b841
                            have hk839 : (y836).toInt = (i).toInt + (1 : Int) + k838 * 4294967296 := hk839
                            obtain rfl : k838 = 0 := by omega
                            refine va_sld hx hb hX hbl hbA hZ.2.1 (hq_in (by omega) (by omega)) dL_law_506 ?_
                            refine lv_topi (fun y842 ey843 => ?_)
                            have b844 := hq_rng y842
                            refine lv_aload_n hx hb dL_law_507 rfl (lv_at hl 3 rfl) ?_
                            refine lv_iload_n hx hb dL_law_508 rfl (lv_at hl 0 rfl) ?_
                            refine lv_iconst (v := 2) hx hb dL_law_509 (by decide) ?_
                            refine lv_iadd hx hb dL_law_510 ?_
                            refine lv_topi (fun y845 ey846 => ?_)
                            obtain ⟨k847, hk848, b849, b850⟩ := hq_add (i) (2)
                            rw [← ey846] at hk848 b849 b850
                            have hk848 : (y845).toInt = (i).toInt + (2 : Int) + k847 * 4294967296 := hk848
                            obtain rfl : k847 = 0 := by omega
                            refine va_sld hx hb hX hbl hbA hZ.2.1 (hq_in (by omega) (by omega)) dL_law_511 ?_
                            refine lv_topi (fun y851 ey852 => ?_)
                            have b853 := hq_rng y851
                            refine lv_aload_n hx hb dL_law_512 rfl (lv_at hl 3 rfl) ?_
                            refine lv_iload_n hx hb dL_law_513 rfl (lv_at hl 0 rfl) ?_
                            refine lv_iconst (v := 3) hx hb dL_law_514 (by decide) ?_
                            refine lv_iadd hx hb dL_law_515 ?_
                            refine lv_topi (fun y854 ey855 => ?_)
                            obtain ⟨k856, hk857, b858, b859⟩ := hq_add (i) (3)
                            rw [← ey855] at hk857 b858 b859
                            have hk857 : (y854).toInt = (i).toInt + (3 : Int) + k856 * 4294967296 := hk857
                            obtain rfl : k856 = 0 := by omega
                            refine va_sld hx hb hX hbl hbA hZ.2.1 (hq_in (by omega) (by omega)) dL_law_516 ?_
                            refine lv_topi (fun y860 ey861 => ?_)
                            have b862 := hq_rng y860
                            have fx869 : V828 (mo) = some (.inr (13, hm_o q (m_tp) (m_sz) (m_fr) (m_bh) (m_hd) (m_ft) (m_fa) (m_le) (m_fo) (m_as) (m_fd) (m_bc) (m_bg) (m_bs) (m_be) (m_b0) (m_b1) (m_cm) (m_hc))) := (hq832.2 (mo) _ ty20 rfl).trans (ho_m)
                            refine hp_calli (hp_runV (As := [.int (y842), .int (y851), .int (y860)]) (rest := []) hx hb hml hown hts (t_X13_rivals l D cs B G  V828 n hP.1 q hR (mo) ty20 (y842) (y851) (y860) fx869  (by omega) (by omega) (by omega) (by omega) (by omega) (by omega) (by omega) (by omega) ) hZ fx869 cv_L_57 rfl rfl ⟨Nat.le_of_ble_eq_true rfl, Nat.le_of_ble_eq_true rfl⟩ rfl hl.1 rfl (Nat.le_of_ble_eq_true rfl) dL_law_517 ⟨(Nat.le_of_ble_eq_true rfl), (Nat.le_of_ble_eq_true rfl)⟩) hZ (fun r866 V863 n864 _ _ hw865 hZ => ?_)
                            obtain ⟨rfl, hq867, ho870, hr868⟩ := hw865
                            have hP := hP.trans hq867 (fun _ _ => rfl)
                            have b871 := hq_rng r866
                            refine lv_pop hx hb dL_law_520 rfl ?_
                            refine lv_goto (tgt := 761) hx hb dL_law_521 (by decide) ?_
                            obtain ⟨y872, ey873⟩ : ∃ y : Int32, y = i + (6) := ⟨_, rfl⟩
                            obtain ⟨k874, hk875, b876, b877⟩ := hq_add (i) (6)
                            rw [← ey873] at hk875 b876 b877
                            have hk875 : (y872).toInt = (i).toInt + (6) + k874 * 4294967296 := hk875
                            refine lv_iinc (v := y872) (lv' := [(3, .int (y872)), (2, .ref (mo)), (1, .ref (a)), (0, .ref (b))]) hx hb dL_law_761 hl (k := 0) rfl (by rw [ey873]; rfl) (by decide) rfl (fun ls hl => ?_)
                            refine lv_goto (tgt := 18) hx hb dL_law_764 (by decide) ?_
                            have fx878 : V863 (a) = some (.inr (11, [.ref (n), .ref (n + 2), .ref (n + 5), .ref (n + 46), .ref (n + 50), .ref (n + 62), .ref (n + 87), .int (c_fs), .ref (n + 465), .ref (n + 88)])) := (hq867.2 (a) _ ty0 rfl).trans (ho834)
                            have fx879 : V863 (n + 2) = some (.inr (7, [.int (q_fk), .int (q_fp), q_tx, q_ou, .int (q_nx), .int (q_tk), .int (q_st), .ref (n + 3)])) := (hq867.2 (n + 2) _ ty3 rfl).trans ((hq832.2 (n + 2) _ ty3 rfl).trans (ho_p))
                            have fx880 : V863 (n + 50) = some (.inr (1, [.ref (n + 51), .ref (n + 52), .int (e_fd), .ref (n + 53), .ref (n + 55), .ref (n + 57), e_bk, e_an, e_mk, .int (e_sz), .ref (n + 59), .ref (n + 60), .ref (n + 61)])) := (hq867.2 (n + 50) _ ty7 rfl).trans ((hq832.2 (n + 50) _ ty7 rfl).trans (ho_e))
                            have fx881 : V863 (n) = some (.inr (9, [.ref (n + 1), .int (p_z)])) := (hq867.2 (n) _ ty1 rfl).trans ((hq832.2 (n) _ ty1 rfl).trans (ho_n))
                            have hinv9 : hk_Inv cs G a n mo q V863 := ⟨hP.1, ⟨_, _, _, fx878, Or.inr ⟨rfl, rfl⟩, by omega, hJ.keep hP.1 ty19 (fun x t hx hg => (hq_lgp hq867 hx hg (fun _ => rfl)).trans (hq_lgp hq832 hx hg (fun _ => rfl)))⟩, ⟨_, _, _, _, _, _, _, fx879⟩, ⟨_, _, _, _, _, fx880, by omega, by omega⟩, ⟨_, _, _, _, _, _, _, _, _, _, _, _, _, _, _, _, _, _, _, _, fx881, ho870, by omega, by omega, by omega, by omega, by omega, by omega, by omega, by omega, by omega⟩, (hVQ.keep hR (fun x t hx hg => (hq867.2 x t hx (by simp [hg])).trans (hq832.2 x t hx (by simp [hg])))), (by obtain ⟨fs9, h9⟩ := hst; exact ⟨fs9, ((hq867.2 _ _ (hr_19 hR) rfl).trans (hq832.2 _ _ (hr_19 hR) rfl)).trans h9⟩)⟩
                            exact ih _ (by omega) _ _ _ ls (y872) rfl hZ hinv9 (by omega) (by omega) (lv_sub hl [0, 1, 2, 3] rfl)
                          ·
                            rcases Classical.em (y14 = 10) with h882 | h882
                            · refine lv_tableIn (off := 491) (tgt := 524) hx hb dL_law_33 (by rw [h882]; decide) (by rw [h882]; decide) (by rw [h882]; decide) (by decide) ?_
                              have b883 : (y14).toInt = 10 := by rw [h882]; decide
                              refine lv_aload_n hx hb dL_law_524 rfl (lv_at hl 2 rfl) ?_
                              refine hp_calli (hp_runV (As := []) (rest := []) hx hb hml hown hts (t_X11_read_1 l D cs B G  V9 n hP.1  (a) ty0 ho_a ty1 ty3 ty5 ty6 ty7 ty16 ty17 ty19 ty18 (by omega) ho_n ty2 (by omega) hJ) hZ ho_a cv_L_58 rfl rfl ⟨Nat.le_of_ble_eq_true rfl, Nat.le_of_ble_eq_true rfl⟩ rfl hl.1 rfl (Nat.le_of_ble_eq_true rfl) dL_law_525 ⟨(Nat.le_of_ble_eq_true rfl), (Nat.le_of_ble_eq_true rfl)⟩) hZ (fun r887 V884 n885 _ _ hw886 hZ => ?_)
                              obtain ⟨rfl, hq888, ⟨z890, ho891, hi892⟩, ⟨z893, ho894, hi895, hi896⟩, hr889⟩ := hw886
                              have hP := hP.trans hq888 (by intro g h; simp_all)
                              have b897 := hq_rng z890
                              have b898 := hq_rng z893
                              have b899 := hq_rng r887
                              refine lv_pop hx hb dL_law_528 rfl ?_
                              refine lv_aload_n hx hb dL_law_529 rfl (lv_at hl 1 rfl) ?_
                              have fx906 : V884 (mo) = some (.inr (13, hm_o q (m_tp) (m_sz) (m_fr) (m_bh) (m_hd) (m_ft) (m_fa) (m_le) (m_fo) (m_as) (m_fd) (m_bc) (m_bg) (m_bs) (m_be) (m_b0) (m_b1) (m_cm) (m_hc))) := (hq888.2 (mo) _ ty20 rfl).trans (ho_m)
                              refine hp_calli (hp_runV (As := []) (rest := []) hx hb hml hown hts (t_X13_read l D cs B G  V884 n hP.1 q hR (mo) ty20 fx906  (by omega) (by omega) (by omega) (by omega) (by omega) (by omega) (by omega) (by omega) (hVQ.keep hR (fun x t hx hg => hq888.2 x t hx (by simp [hg])))) hZ fx906 cv_L_61 rfl rfl ⟨Nat.le_of_ble_eq_true rfl, Nat.le_of_ble_eq_true rfl⟩ rfl hl.1 rfl (Nat.le_of_ble_eq_true rfl) dL_law_530 ⟨(Nat.le_of_ble_eq_true rfl), (Nat.le_of_ble_eq_true rfl)⟩) hZ (fun r903 V900 n901 _ _ hw902 hZ => ?_)
                              obtain ⟨rfl, hq904, ⟨z907, z908, z909, z910, z911, ho912, hi913, hi914, hi915, hi916, hi917, hi918⟩, hr905⟩ := hw902
                              have hP := hP.trans hq904 (by intro g h; simp_all)
                              have b919 := hq_rng z907
                              have b920 := hq_rng z910
                              have b921 := hq_rng z909
                              have b922 := hq_rng z908
                              have b923 := hq_rng z911
                              have b924 := hq_rng r903
                              refine lv_pop hx hb dL_law_533 rfl ?_
                              refine lv_goto (tgt := 761) hx hb dL_law_534 (by decide) ?_
                              obtain ⟨y925, ey926⟩ : ∃ y : Int32, y = i + (6) := ⟨_, rfl⟩
                              obtain ⟨k927, hk928, b929, b930⟩ := hq_add (i) (6)
                              rw [← ey926] at hk928 b929 b930
                              have hk928 : (y925).toInt = (i).toInt + (6) + k927 * 4294967296 := hk928
                              refine lv_iinc (v := y925) (lv' := [(3, .int (y925)), (2, .ref (mo)), (1, .ref (a)), (0, .ref (b))]) hx hb dL_law_761 hl (k := 0) rfl (by rw [ey926]; rfl) (by decide) rfl (fun ls hl => ?_)
                              refine lv_goto (tgt := 18) hx hb dL_law_764 (by decide) ?_
                              have fx931 : V900 (a) = some (.inr (11, [.ref (n), .ref (n + 2), .ref (n + 5), .ref (n + 46), .ref (n + 50), .ref (n + 62), .ref (n + 87), .int (z890), .ref (n + 465), .ref (n + 88)])) := (hq904.2 (a) _ ty0 rfl).trans (ho891)
                              have fx932 : V900 (n + 2) = some (.inr (7, [.int (q_fk), .int (q_fp), q_tx, q_ou, .int (q_nx), .int (q_tk), .int (q_st), .ref (n + 3)])) := (hq904.2 (n + 2) _ ty3 rfl).trans ((hq888.2 (n + 2) _ ty3 rfl).trans (ho_p))
                              have fx933 : V900 (n + 50) = some (.inr (1, [.ref (n + 51), .ref (n + 52), .int (e_fd), .ref (n + 53), .ref (n + 55), .ref (n + 57), e_bk, e_an, e_mk, .int (e_sz), .ref (n + 59), .ref (n + 60), .ref (n + 61)])) := (hq904.2 (n + 50) _ ty7 rfl).trans ((hq888.2 (n + 50) _ ty7 rfl).trans (ho_e))
                              have fx934 : V900 (n) = some (.inr (9, [.ref (n + 1), .int (z893)])) := (hq904.2 (n) _ ty1 rfl).trans (ho894)
                              have hinv9 : hk_Inv cs G a n mo q V900 := ⟨hP.1, ⟨_, _, _, fx931, Or.inr ⟨rfl, rfl⟩, by omega, hJ.keep hP.1 ty19 (fun x t hx hg => (hq_lgp hq904 hx hg (fun _ => rfl)).trans (hq_lgp hq888 hx hg (fun _ => rfl)))⟩, ⟨_, _, _, _, _, _, _, fx932⟩, ⟨_, _, _, _, _, fx933, by omega, by omega⟩, ⟨_, _, _, _, _, _, _, _, _, _, _, _, _, _, _, _, _, _, _, _, fx934, ho912, by omega, by omega, by omega, by omega, by omega, by omega, by omega, by omega, by omega⟩, (hVQ.keep hR (fun x t hx hg => (hq904.2 x t hx (by simp [hg])).trans (hq888.2 x t hx (by simp [hg])))), (by obtain ⟨fs9, h9⟩ := hst; exact ⟨fs9, ((hq904.2 _ _ (hr_19 hR) rfl).trans (hq888.2 _ _ (hr_19 hR) rfl)).trans h9⟩)⟩
                              exact ih _ (by omega) _ _ _ ls (y925) rfl hZ hinv9 (by omega) (by omega) (lv_sub hl [0, 1, 2, 3] rfl)
                            ·
                              rcases Classical.em (y14 = 11) with h935 | h935
                              · refine lv_tableIn (off := 504) (tgt := 537) hx hb dL_law_33 (by rw [h935]; decide) (by rw [h935]; decide) (by rw [h935]; decide) (by decide) ?_
                                have b936 : (y14).toInt = 11 := by rw [h935]; decide
                                refine lv_aload_n hx hb dL_law_537 rfl (lv_at hl 2 rfl) ?_
                                refine lv_aload_n hx hb dL_law_538 rfl (lv_at hl 3 rfl) ?_
                                refine lv_iload_n hx hb dL_law_539 rfl (lv_at hl 0 rfl) ?_
                                refine lv_iconst (v := 1) hx hb dL_law_540 (by decide) ?_
                                refine lv_iadd hx hb dL_law_541 ?_
                                refine lv_topi (fun y937 ey938 => ?_)
                                obtain ⟨k939, hk940, b941, b942⟩ := hq_add (i) (1)
                                rw [← ey938] at hk940 b941 b942
                                have hk940 : (y937).toInt = (i).toInt + (1 : Int) + k939 * 4294967296 := hk940
                                obtain rfl : k939 = 0 := by omega
                                refine va_sld hx hb hX hbl hbA hZ.2.1 (hq_in (by omega) (by omega)) dL_law_542 ?_
                                refine lv_topi (fun y943 ey944 => ?_)
                                have b945 := hq_rng y943
                                refine lv_aload_n hx hb dL_law_543 rfl (lv_at hl 3 rfl) ?_
                                refine lv_iload_n hx hb dL_law_544 rfl (lv_at hl 0 rfl) ?_
                                refine lv_iconst (v := 2) hx hb dL_law_545 (by decide) ?_
                                refine lv_iadd hx hb dL_law_546 ?_
                                refine lv_topi (fun y946 ey947 => ?_)
                                obtain ⟨k948, hk949, b950, b951⟩ := hq_add (i) (2)
                                rw [← ey947] at hk949 b950 b951
                                have hk949 : (y946).toInt = (i).toInt + (2 : Int) + k948 * 4294967296 := hk949
                                obtain rfl : k948 = 0 := by omega
                                refine va_sld hx hb hX hbl hbA hZ.2.1 (hq_in (by omega) (by omega)) dL_law_547 ?_
                                refine lv_topi (fun y952 ey953 => ?_)
                                have b954 := hq_rng y952
                                refine hp_calli (hp_runV (As := [.int (y943), .int (y952)]) (rest := []) hx hb hml hown hts (t_X11_place_1 l D cs B G  V9 n hP.1  (a) ty0 (y943) (y952) ho_a ty1 ty3 ty5 ty6 ty7 ty16 ty17 ty19 ty18 (by omega) ) hZ ho_a cv_L_62 rfl rfl ⟨Nat.le_of_ble_eq_true rfl, Nat.le_of_ble_eq_true rfl⟩ rfl hl.1 rfl (Nat.le_of_ble_eq_true rfl) dL_law_548 ⟨(Nat.le_of_ble_eq_true rfl), (Nat.le_of_ble_eq_true rfl)⟩) hZ (fun r958 V955 n956 _ _ hw957 hZ => ?_)
                                obtain ⟨rfl, hq959, ho961, hr960⟩ := hw957
                                have hP := hP.trans hq959 (fun _ _ => rfl)
                                have b962 := hq_rng r958
                                refine lv_pop hx hb dL_law_551 rfl ?_
                                refine lv_aload_n hx hb dL_law_552 rfl (lv_at hl 1 rfl) ?_
                                refine lv_aload_n hx hb dL_law_553 rfl (lv_at hl 3 rfl) ?_
                                refine lv_iload_n hx hb dL_law_554 rfl (lv_at hl 0 rfl) ?_
                                refine lv_iconst (v := 1) hx hb dL_law_555 (by decide) ?_
                                refine lv_iadd hx hb dL_law_556 ?_
                                refine lv_topi (fun y963 ey964 => ?_)
                                obtain ⟨k965, hk966, b967, b968⟩ := hq_add (i) (1)
                                rw [← ey964] at hk966 b967 b968
                                have hk966 : (y963).toInt = (i).toInt + (1 : Int) + k965 * 4294967296 := hk966
                                obtain rfl : k965 = 0 := by omega
                                refine va_sld hx hb hX hbl hbA hZ.2.1 (hq_in (by omega) (by omega)) dL_law_557 ?_
                                refine lv_topi (fun y969 ey970 => ?_)
                                have b971 := hq_rng y969
                                refine lv_aload_n hx hb dL_law_558 rfl (lv_at hl 3 rfl) ?_
                                refine lv_iload_n hx hb dL_law_559 rfl (lv_at hl 0 rfl) ?_
                                refine lv_iconst (v := 2) hx hb dL_law_560 (by decide) ?_
                                refine lv_iadd hx hb dL_law_561 ?_
                                refine lv_topi (fun y972 ey973 => ?_)
                                obtain ⟨k974, hk975, b976, b977⟩ := hq_add (i) (2)
                                rw [← ey973] at hk975 b976 b977
                                have hk975 : (y972).toInt = (i).toInt + (2 : Int) + k974 * 4294967296 := hk975
                                obtain rfl : k974 = 0 := by omega
                                refine va_sld hx hb hX hbl hbA hZ.2.1 (hq_in (by omega) (by omega)) dL_law_562 ?_
                                refine lv_topi (fun y978 ey979 => ?_)
                                have b980 := hq_rng y978
                                have fx987 : V955 (mo) = some (.inr (13, hm_o q (m_tp) (m_sz) (m_fr) (m_bh) (m_hd) (m_ft) (m_fa) (m_le) (m_fo) (m_as) (m_fd) (m_bc) (m_bg) (m_bs) (m_be) (m_b0) (m_b1) (m_cm) (m_hc))) := (hq959.2 (mo) _ ty20 rfl).trans (ho_m)
                                refine hp_calli (hp_runV (As := [.int (y969), .int (y978)]) (rest := []) hx hb hml hown hts (t_X13_place l D cs B G  V955 n hP.1 q hR (mo) ty20 (y969) (y978) fx987  (by omega) (by omega) (by omega) (by omega) (by omega) (by omega) (by omega) (by omega) ) hZ fx987 cv_L_65 rfl rfl ⟨Nat.le_of_ble_eq_true rfl, Nat.le_of_ble_eq_true rfl⟩ rfl hl.1 rfl (Nat.le_of_ble_eq_true rfl) dL_law_563 ⟨(Nat.le_of_ble_eq_true rfl), (Nat.le_of_ble_eq_true rfl)⟩) hZ (fun r984 V981 n982 _ _ hw983 hZ => ?_)
                                obtain ⟨rfl, hq985, ho988, hr986⟩ := hw983
                                have hP := hP.trans hq985 (fun _ _ => rfl)
                                have b989 := hq_rng r984
                                refine lv_pop hx hb dL_law_566 rfl ?_
                                refine lv_goto (tgt := 761) hx hb dL_law_567 (by decide) ?_
                                obtain ⟨y990, ey991⟩ : ∃ y : Int32, y = i + (6) := ⟨_, rfl⟩
                                obtain ⟨k992, hk993, b994, b995⟩ := hq_add (i) (6)
                                rw [← ey991] at hk993 b994 b995
                                have hk993 : (y990).toInt = (i).toInt + (6) + k992 * 4294967296 := hk993
                                refine lv_iinc (v := y990) (lv' := [(3, .int (y990)), (2, .ref (mo)), (1, .ref (a)), (0, .ref (b))]) hx hb dL_law_761 hl (k := 0) rfl (by rw [ey991]; rfl) (by decide) rfl (fun ls hl => ?_)
                                refine lv_goto (tgt := 18) hx hb dL_law_764 (by decide) ?_
                                have fx996 : V981 (a) = some (.inr (11, [.ref (n), .ref (n + 2), .ref (n + 5), .ref (n + 46), .ref (n + 50), .ref (n + 62), .ref (n + 87), .int (c_fs), .ref (n + 465), .ref (n + 88)])) := (hq985.2 (a) _ ty0 rfl).trans (ho961)
                                have fx997 : V981 (n + 2) = some (.inr (7, [.int (q_fk), .int (q_fp), q_tx, q_ou, .int (q_nx), .int (q_tk), .int (q_st), .ref (n + 3)])) := (hq985.2 (n + 2) _ ty3 rfl).trans ((hq959.2 (n + 2) _ ty3 rfl).trans (ho_p))
                                have fx998 : V981 (n + 50) = some (.inr (1, [.ref (n + 51), .ref (n + 52), .int (e_fd), .ref (n + 53), .ref (n + 55), .ref (n + 57), e_bk, e_an, e_mk, .int (e_sz), .ref (n + 59), .ref (n + 60), .ref (n + 61)])) := (hq985.2 (n + 50) _ ty7 rfl).trans ((hq959.2 (n + 50) _ ty7 rfl).trans (ho_e))
                                have fx999 : V981 (n) = some (.inr (9, [.ref (n + 1), .int (p_z)])) := (hq985.2 (n) _ ty1 rfl).trans ((hq959.2 (n) _ ty1 rfl).trans (ho_n))
                                have hinv9 : hk_Inv cs G a n mo q V981 := ⟨hP.1, ⟨_, _, _, fx996, Or.inr ⟨rfl, rfl⟩, by omega, hJ.keep hP.1 ty19 (fun x t hx hg => (hq_lgp hq985 hx hg (fun _ => rfl)).trans (hq_lgp hq959 hx hg (fun _ => rfl)))⟩, ⟨_, _, _, _, _, _, _, fx997⟩, ⟨_, _, _, _, _, fx998, by omega, by omega⟩, ⟨_, _, _, _, _, _, _, _, _, _, _, _, _, _, _, _, _, _, _, _, fx999, ho988, by omega, by omega, by omega, by omega, by omega, by omega, by omega, by omega, by omega⟩, (hVQ.keep hR (fun x t hx hg => (hq985.2 x t hx (by simp [hg])).trans (hq959.2 x t hx (by simp [hg])))), (by obtain ⟨fs9, h9⟩ := hst; exact ⟨fs9, ((hq985.2 _ _ (hr_19 hR) rfl).trans (hq959.2 _ _ (hr_19 hR) rfl)).trans h9⟩)⟩
                                exact ih _ (by omega) _ _ _ ls (y990) rfl hZ hinv9 (by omega) (by omega) (lv_sub hl [0, 1, 2, 3] rfl)
                              ·
                                rcases Classical.em (y14 = 12) with h1000 | h1000
                                · refine lv_tableIn (off := 537) (tgt := 570) hx hb dL_law_33 (by rw [h1000]; decide) (by rw [h1000]; decide) (by rw [h1000]; decide) (by decide) ?_
                                  have b1001 : (y14).toInt = 12 := by rw [h1000]; decide
                                  refine lv_aload_n hx hb dL_law_570 rfl (lv_at hl 2 rfl) ?_
                                  refine hp_calli (hp_runV (As := []) (rest := []) hx hb hml hown hts (t_X11_unused_1 l D cs B G  V9 n hP.1  (a) ty0 ho_a ty1 ty3 ty5 ty6 ty7 ty16 ty17 ty19 ty18 (by omega) hJ) hZ ho_a cv_L_66 rfl rfl ⟨Nat.le_of_ble_eq_true rfl, Nat.le_of_ble_eq_true rfl⟩ rfl hl.1 rfl (Nat.le_of_ble_eq_true rfl) dL_law_571 ⟨(Nat.le_of_ble_eq_true rfl), (Nat.le_of_ble_eq_true rfl)⟩) hZ (fun r1005 V1002 n1003 _ _ hw1004 hZ => ?_)
                                  obtain ⟨rfl, hq1006, ho1008, hr1007⟩ := hw1004
                                  have hP := hP.trans hq1006 (by intro g h; simp_all)
                                  have b1009 := hq_rng r1005
                                  refine lv_pop hx hb dL_law_574 rfl ?_
                                  refine lv_aload_n hx hb dL_law_575 rfl (lv_at hl 1 rfl) ?_
                                  have fx1016 : V1002 (mo) = some (.inr (13, hm_o q (m_tp) (m_sz) (m_fr) (m_bh) (m_hd) (m_ft) (m_fa) (m_le) (m_fo) (m_as) (m_fd) (m_bc) (m_bg) (m_bs) (m_be) (m_b0) (m_b1) (m_cm) (m_hc))) := (hq1006.2 (mo) _ ty20 rfl).trans (ho_m)
                                  refine hp_calli (hp_runV (As := []) (rest := []) hx hb hml hown hts (t_X13_unused l D cs B G  V1002 n hP.1 q hR (mo) ty20 fx1016  (by omega) (by omega) (by omega) (by omega) (by omega) (by omega) (by omega) (by omega) (hVQ.keep hR (fun x t hx hg => hq1006.2 x t hx (by simp [hg])))) hZ fx1016 cv_L_69 rfl rfl ⟨Nat.le_of_ble_eq_true rfl, Nat.le_of_ble_eq_true rfl⟩ rfl hl.1 rfl (Nat.le_of_ble_eq_true rfl) dL_law_576 ⟨(Nat.le_of_ble_eq_true rfl), (Nat.le_of_ble_eq_true rfl)⟩) hZ (fun r1013 V1010 n1011 _ _ hw1012 hZ => ?_)
                                  obtain ⟨rfl, hq1014, ⟨z1017, z1018, ho1019, hi1020, hi1021⟩, hr1015⟩ := hw1012
                                  have hP := hP.trans hq1014 (by intro g h; simp_all)
                                  have b1022 := hq_rng z1018
                                  have b1023 := hq_rng z1017
                                  have b1024 := hq_rng r1013
                                  refine lv_pop hx hb dL_law_579 rfl ?_
                                  refine lv_goto (tgt := 761) hx hb dL_law_580 (by decide) ?_
                                  obtain ⟨y1025, ey1026⟩ : ∃ y : Int32, y = i + (6) := ⟨_, rfl⟩
                                  obtain ⟨k1027, hk1028, b1029, b1030⟩ := hq_add (i) (6)
                                  rw [← ey1026] at hk1028 b1029 b1030
                                  have hk1028 : (y1025).toInt = (i).toInt + (6) + k1027 * 4294967296 := hk1028
                                  refine lv_iinc (v := y1025) (lv' := [(3, .int (y1025)), (2, .ref (mo)), (1, .ref (a)), (0, .ref (b))]) hx hb dL_law_761 hl (k := 0) rfl (by rw [ey1026]; rfl) (by decide) rfl (fun ls hl => ?_)
                                  refine lv_goto (tgt := 18) hx hb dL_law_764 (by decide) ?_
                                  have fx1031 : V1010 (a) = some (.inr (11, [.ref (n), .ref (n + 2), .ref (n + 5), .ref (n + 46), .ref (n + 50), .ref (n + 62), .ref (n + 87), .int (c_fs), .ref (n + 465), .ref (n + 88)])) := (hq1014.2 (a) _ ty0 rfl).trans (ho1008)
                                  have fx1032 : V1010 (n + 2) = some (.inr (7, [.int (q_fk), .int (q_fp), q_tx, q_ou, .int (q_nx), .int (q_tk), .int (q_st), .ref (n + 3)])) := (hq1014.2 (n + 2) _ ty3 rfl).trans ((hq1006.2 (n + 2) _ ty3 rfl).trans (ho_p))
                                  have fx1033 : V1010 (n + 50) = some (.inr (1, [.ref (n + 51), .ref (n + 52), .int (e_fd), .ref (n + 53), .ref (n + 55), .ref (n + 57), e_bk, e_an, e_mk, .int (e_sz), .ref (n + 59), .ref (n + 60), .ref (n + 61)])) := (hq1014.2 (n + 50) _ ty7 rfl).trans ((hq1006.2 (n + 50) _ ty7 rfl).trans (ho_e))
                                  have fx1034 : V1010 (n) = some (.inr (9, [.ref (n + 1), .int (p_z)])) := (hq1014.2 (n) _ ty1 rfl).trans ((hq1006.2 (n) _ ty1 rfl).trans (ho_n))
                                  have hinv9 : hk_Inv cs G a n mo q V1010 := ⟨hP.1, ⟨_, _, _, fx1031, Or.inr ⟨rfl, rfl⟩, by omega, hJ.keep hP.1 ty19 (fun x t hx hg => (hq_lgp hq1014 hx hg (fun _ => rfl)).trans (hq_lgp hq1006 hx hg (fun _ => rfl)))⟩, ⟨_, _, _, _, _, _, _, fx1032⟩, ⟨_, _, _, _, _, fx1033, by omega, by omega⟩, ⟨_, _, _, _, _, _, _, _, _, _, _, _, _, _, _, _, _, _, _, _, fx1034, ho1019, by omega, by omega, by omega, by omega, by omega, by omega, by omega, by omega, by omega⟩, (hVQ.keep hR (fun x t hx hg => (hq1014.2 x t hx (by simp [hg])).trans (hq1006.2 x t hx (by simp [hg])))), (by obtain ⟨fs9, h9⟩ := hst; exact ⟨fs9, ((hq1014.2 _ _ (hr_19 hR) rfl).trans (hq1006.2 _ _ (hr_19 hR) rfl)).trans h9⟩)⟩
                                  exact ih _ (by omega) _ _ _ ls (y1025) rfl hZ hinv9 (by omega) (by omega) (lv_sub hl [0, 1, 2, 3] rfl)
                                ·
                                  rcases Classical.em (y14 = 13) with h1035 | h1035
                                  · refine lv_tableIn (off := 550) (tgt := 583) hx hb dL_law_33 (by rw [h1035]; decide) (by rw [h1035]; decide) (by rw [h1035]; decide) (by decide) ?_
                                    have b1036 : (y14).toInt = 13 := by rw [h1035]; decide
                                    refine lv_aload_n hx hb dL_law_583 rfl (lv_at hl 2 rfl) ?_
                                    refine lv_aload_n hx hb dL_law_584 rfl (lv_at hl 3 rfl) ?_
                                    refine lv_iload_n hx hb dL_law_585 rfl (lv_at hl 0 rfl) ?_
                                    refine lv_iconst (v := 1) hx hb dL_law_586 (by decide) ?_
                                    refine lv_iadd hx hb dL_law_587 ?_
                                    refine lv_topi (fun y1037 ey1038 => ?_)
                                    obtain ⟨k1039, hk1040, b1041, b1042⟩ := hq_add (i) (1)
                                    rw [← ey1038] at hk1040 b1041 b1042
                                    have hk1040 : (y1037).toInt = (i).toInt + (1 : Int) + k1039 * 4294967296 := hk1040
                                    obtain rfl : k1039 = 0 := by omega
                                    refine va_sld hx hb hX hbl hbA hZ.2.1 (hq_in (by omega) (by omega)) dL_law_588 ?_
                                    refine lv_topi (fun y1043 ey1044 => ?_)
                                    have b1045 := hq_rng y1043
                                    refine hp_calli (hp_runV (As := [.int (y1043)]) (rest := []) hx hb hml hown hts (t_X11_users_1 l D cs B G  V9 n hP.1  (a) ty0 (y1043) ho_a ty1 ty3 ty5 ty6 ty7 ty16 ty17 ty19 ty18 (by omega) hJ) hZ ho_a cv_L_70 rfl rfl ⟨Nat.le_of_ble_eq_true rfl, Nat.le_of_ble_eq_true rfl⟩ rfl hl.1 rfl (Nat.le_of_ble_eq_true rfl) dL_law_589 ⟨(Nat.le_of_ble_eq_true rfl), (Nat.le_of_ble_eq_true rfl)⟩) hZ (fun r1049 V1046 n1047 _ _ hw1048 hZ => ?_)
                                    obtain ⟨rfl, hq1050, ho1052, hr1051⟩ := hw1048
                                    have hP := hP.trans hq1050 (by intro g h; simp_all)
                                    have b1053 := hq_rng r1049
                                    refine lv_pop hx hb dL_law_592 rfl ?_
                                    refine lv_aload_n hx hb dL_law_593 rfl (lv_at hl 1 rfl) ?_
                                    refine lv_aload_n hx hb dL_law_594 rfl (lv_at hl 3 rfl) ?_
                                    refine lv_iload_n hx hb dL_law_595 rfl (lv_at hl 0 rfl) ?_
                                    refine lv_iconst (v := 1) hx hb dL_law_596 (by decide) ?_
                                    refine lv_iadd hx hb dL_law_597 ?_
                                    refine lv_topi (fun y1054 ey1055 => ?_)
                                    obtain ⟨k1056, hk1057, b1058, b1059⟩ := hq_add (i) (1)
                                    rw [← ey1055] at hk1057 b1058 b1059
                                    have hk1057 : (y1054).toInt = (i).toInt + (1 : Int) + k1056 * 4294967296 := hk1057
                                    obtain rfl : k1056 = 0 := by omega
                                    refine va_sld hx hb hX hbl hbA hZ.2.1 (hq_in (by omega) (by omega)) dL_law_598 ?_
                                    refine lv_topi (fun y1060 ey1061 => ?_)
                                    have b1062 := hq_rng y1060
                                    have fx1069 : V1046 (mo) = some (.inr (13, hm_o q (m_tp) (m_sz) (m_fr) (m_bh) (m_hd) (m_ft) (m_fa) (m_le) (m_fo) (m_as) (m_fd) (m_bc) (m_bg) (m_bs) (m_be) (m_b0) (m_b1) (m_cm) (m_hc))) := (hq1050.2 (mo) _ ty20 rfl).trans (ho_m)
                                    refine hp_calli (hp_runV (As := [.int (y1060)]) (rest := []) hx hb hml hown hts (t_X13_users l D cs B G  V1046 n hP.1 q hR (mo) ty20 (y1060) fx1069  (by omega) (by omega) (by omega) (by omega) (by omega) (by omega) (by omega) (by omega) (hVQ.keep hR (fun x t hx hg => hq1050.2 x t hx (by simp [hg])))) hZ fx1069 cv_L_73 rfl rfl ⟨Nat.le_of_ble_eq_true rfl, Nat.le_of_ble_eq_true rfl⟩ rfl hl.1 rfl (Nat.le_of_ble_eq_true rfl) dL_law_599 ⟨(Nat.le_of_ble_eq_true rfl), (Nat.le_of_ble_eq_true rfl)⟩) hZ (fun r1066 V1063 n1064 _ _ hw1065 hZ => ?_)
                                    obtain ⟨rfl, hq1067, ⟨z1070, z1071, ho1072, hi1073, hi1074⟩, hr1068⟩ := hw1065
                                    have hP := hP.trans hq1067 (by intro g h; simp_all)
                                    have b1075 := hq_rng z1071
                                    have b1076 := hq_rng z1070
                                    have b1077 := hq_rng r1066
                                    refine lv_pop hx hb dL_law_602 rfl ?_
                                    refine lv_goto (tgt := 761) hx hb dL_law_603 (by decide) ?_
                                    obtain ⟨y1078, ey1079⟩ : ∃ y : Int32, y = i + (6) := ⟨_, rfl⟩
                                    obtain ⟨k1080, hk1081, b1082, b1083⟩ := hq_add (i) (6)
                                    rw [← ey1079] at hk1081 b1082 b1083
                                    have hk1081 : (y1078).toInt = (i).toInt + (6) + k1080 * 4294967296 := hk1081
                                    refine lv_iinc (v := y1078) (lv' := [(3, .int (y1078)), (2, .ref (mo)), (1, .ref (a)), (0, .ref (b))]) hx hb dL_law_761 hl (k := 0) rfl (by rw [ey1079]; rfl) (by decide) rfl (fun ls hl => ?_)
                                    refine lv_goto (tgt := 18) hx hb dL_law_764 (by decide) ?_
                                    have fx1084 : V1063 (a) = some (.inr (11, [.ref (n), .ref (n + 2), .ref (n + 5), .ref (n + 46), .ref (n + 50), .ref (n + 62), .ref (n + 87), .int (c_fs), .ref (n + 465), .ref (n + 88)])) := (hq1067.2 (a) _ ty0 rfl).trans (ho1052)
                                    have fx1085 : V1063 (n + 2) = some (.inr (7, [.int (q_fk), .int (q_fp), q_tx, q_ou, .int (q_nx), .int (q_tk), .int (q_st), .ref (n + 3)])) := (hq1067.2 (n + 2) _ ty3 rfl).trans ((hq1050.2 (n + 2) _ ty3 rfl).trans (ho_p))
                                    have fx1086 : V1063 (n + 50) = some (.inr (1, [.ref (n + 51), .ref (n + 52), .int (e_fd), .ref (n + 53), .ref (n + 55), .ref (n + 57), e_bk, e_an, e_mk, .int (e_sz), .ref (n + 59), .ref (n + 60), .ref (n + 61)])) := (hq1067.2 (n + 50) _ ty7 rfl).trans ((hq1050.2 (n + 50) _ ty7 rfl).trans (ho_e))
                                    have fx1087 : V1063 (n) = some (.inr (9, [.ref (n + 1), .int (p_z)])) := (hq1067.2 (n) _ ty1 rfl).trans ((hq1050.2 (n) _ ty1 rfl).trans (ho_n))
                                    have hinv9 : hk_Inv cs G a n mo q V1063 := ⟨hP.1, ⟨_, _, _, fx1084, Or.inr ⟨rfl, rfl⟩, by omega, hJ.keep hP.1 ty19 (fun x t hx hg => (hq_lgp hq1067 hx hg (fun _ => rfl)).trans (hq_lgp hq1050 hx hg (fun _ => rfl)))⟩, ⟨_, _, _, _, _, _, _, fx1085⟩, ⟨_, _, _, _, _, fx1086, by omega, by omega⟩, ⟨_, _, _, _, _, _, _, _, _, _, _, _, _, _, _, _, _, _, _, _, fx1087, ho1072, by omega, by omega, by omega, by omega, by omega, by omega, by omega, by omega, by omega⟩, (hVQ.keep hR (fun x t hx hg => (hq1067.2 x t hx (by simp [hg])).trans (hq1050.2 x t hx (by simp [hg])))), (by obtain ⟨fs9, h9⟩ := hst; exact ⟨fs9, ((hq1067.2 _ _ (hr_19 hR) rfl).trans (hq1050.2 _ _ (hr_19 hR) rfl)).trans h9⟩)⟩
                                    exact ih _ (by omega) _ _ _ ls (y1078) rfl hZ hinv9 (by omega) (by omega) (lv_sub hl [0, 1, 2, 3] rfl)
                                  ·
                                    rcases Classical.em (y14 = 14) with h1088 | h1088
                                    · refine lv_tableIn (off := 573) (tgt := 606) hx hb dL_law_33 (by rw [h1088]; decide) (by rw [h1088]; decide) (by rw [h1088]; decide) (by decide) ?_
                                      have b1089 : (y14).toInt = 14 := by rw [h1088]; decide
                                      refine lv_aload_n hx hb dL_law_606 rfl (lv_at hl 2 rfl) ?_
                                      refine lv_aload_n hx hb dL_law_607 rfl (lv_at hl 3 rfl) ?_
                                      refine lv_iload_n hx hb dL_law_608 rfl (lv_at hl 0 rfl) ?_
                                      refine lv_iconst (v := 1) hx hb dL_law_609 (by decide) ?_
                                      refine lv_iadd hx hb dL_law_610 ?_
                                      refine lv_topi (fun y1090 ey1091 => ?_)
                                      obtain ⟨k1092, hk1093, b1094, b1095⟩ := hq_add (i) (1)
                                      rw [← ey1091] at hk1093 b1094 b1095
                                      have hk1093 : (y1090).toInt = (i).toInt + (1 : Int) + k1092 * 4294967296 := hk1093
                                      obtain rfl : k1092 = 0 := by omega
                                      refine va_sld hx hb hX hbl hbA hZ.2.1 (hq_in (by omega) (by omega)) dL_law_611 ?_
                                      refine lv_topi (fun y1096 ey1097 => ?_)
                                      have b1098 := hq_rng y1096
                                      refine lv_aload_n hx hb dL_law_612 rfl (lv_at hl 3 rfl) ?_
                                      refine lv_iload_n hx hb dL_law_613 rfl (lv_at hl 0 rfl) ?_
                                      refine lv_iconst (v := 2) hx hb dL_law_614 (by decide) ?_
                                      refine lv_iadd hx hb dL_law_615 ?_
                                      refine lv_topi (fun y1099 ey1100 => ?_)
                                      obtain ⟨k1101, hk1102, b1103, b1104⟩ := hq_add (i) (2)
                                      rw [← ey1100] at hk1102 b1103 b1104
                                      have hk1102 : (y1099).toInt = (i).toInt + (2 : Int) + k1101 * 4294967296 := hk1102
                                      obtain rfl : k1101 = 0 := by omega
                                      refine va_sld hx hb hX hbl hbA hZ.2.1 (hq_in (by omega) (by omega)) dL_law_616 ?_
                                      refine lv_topi (fun y1105 ey1106 => ?_)
                                      have b1107 := hq_rng y1105
                                      refine lv_aload_n hx hb dL_law_617 rfl (lv_at hl 3 rfl) ?_
                                      refine lv_iload_n hx hb dL_law_618 rfl (lv_at hl 0 rfl) ?_
                                      refine lv_iconst (v := 3) hx hb dL_law_619 (by decide) ?_
                                      refine lv_iadd hx hb dL_law_620 ?_
                                      refine lv_topi (fun y1108 ey1109 => ?_)
                                      obtain ⟨k1110, hk1111, b1112, b1113⟩ := hq_add (i) (3)
                                      rw [← ey1109] at hk1111 b1112 b1113
                                      have hk1111 : (y1108).toInt = (i).toInt + (3 : Int) + k1110 * 4294967296 := hk1111
                                      obtain rfl : k1110 = 0 := by omega
                                      refine va_sld hx hb hX hbl hbA hZ.2.1 (hq_in (by omega) (by omega)) dL_law_621 ?_
                                      refine lv_topi (fun y1114 ey1115 => ?_)
                                      have b1116 := hq_rng y1114
                                      refine lv_aload_n hx hb dL_law_622 rfl (lv_at hl 3 rfl) ?_
                                      refine lv_iload_n hx hb dL_law_623 rfl (lv_at hl 0 rfl) ?_
                                      refine lv_iconst (v := 4) hx hb dL_law_624 (by decide) ?_
                                      refine lv_iadd hx hb dL_law_625 ?_
                                      refine lv_topi (fun y1117 ey1118 => ?_)
                                      obtain ⟨k1119, hk1120, b1121, b1122⟩ := hq_add (i) (4)
                                      rw [← ey1118] at hk1120 b1121 b1122
                                      have hk1120 : (y1117).toInt = (i).toInt + (4 : Int) + k1119 * 4294967296 := hk1120
                                      obtain rfl : k1119 = 0 := by omega
                                      refine va_sld hx hb hX hbl hbA hZ.2.1 (hq_in (by omega) (by omega)) dL_law_626 ?_
                                      refine lv_topi (fun y1123 ey1124 => ?_)
                                      have b1125 := hq_rng y1123
                                      refine hp_calli (hp_runV (As := [.int (y1096), .int (y1105), .int (y1114), .int (y1123)]) (rest := []) hx hb hml hown hts (t_X11_answer_1 l D cs B G  V9 n hP.1  (a) ty0 (y1096) (y1105) (y1114) (y1123) ho_a ty1 ty3 ty5 ty6 ty7 ty16 ty17 ty19 ty18 (by omega) ho_n ty2 (by omega) ho_e ty8 ty9 ty10 ty11 ty12 ty13 ty14 ty15 (by omega) (by omega) hJ) hZ ho_a cv_L_74 rfl rfl ⟨Nat.le_of_ble_eq_true rfl, Nat.le_of_ble_eq_true rfl⟩ rfl hl.1 rfl (Nat.le_of_ble_eq_true rfl) dL_law_627 ⟨(Nat.le_of_ble_eq_true rfl), (Nat.le_of_ble_eq_true rfl)⟩) hZ (fun r1129 V1126 n1127 _ _ hw1128 hZ => ?_)
                                      obtain ⟨rfl, hq1130, ho1132, ⟨z1133, ho1134, hi1135, hi1136⟩, ⟨v1137, v1138, v1139, z1140, z1141, ho1142, hi1143, hi1144⟩, hr1131⟩ := hw1128
                                      have hP := hP.trans hq1130 (by intro g h; simp_all)
                                      have b1145 := hq_rng z1133
                                      have b1146 := hq_rng z1140
                                      have b1147 := hq_rng z1141
                                      have b1148 := hq_rng r1129
                                      refine lv_pop hx hb dL_law_630 rfl ?_
                                      refine lv_aload_n hx hb dL_law_631 rfl (lv_at hl 1 rfl) ?_
                                      refine lv_aload_n hx hb dL_law_632 rfl (lv_at hl 3 rfl) ?_
                                      refine lv_iload_n hx hb dL_law_633 rfl (lv_at hl 0 rfl) ?_
                                      refine lv_iconst (v := 1) hx hb dL_law_634 (by decide) ?_
                                      refine lv_iadd hx hb dL_law_635 ?_
                                      refine lv_topi (fun y1149 ey1150 => ?_)
                                      obtain ⟨k1151, hk1152, b1153, b1154⟩ := hq_add (i) (1)
                                      rw [← ey1150] at hk1152 b1153 b1154
                                      have hk1152 : (y1149).toInt = (i).toInt + (1 : Int) + k1151 * 4294967296 := hk1152
                                      obtain rfl : k1151 = 0 := by omega
                                      refine va_sld hx hb hX hbl hbA hZ.2.1 (hq_in (by omega) (by omega)) dL_law_636 ?_
                                      refine lv_topi (fun y1155 ey1156 => ?_)
                                      have b1157 := hq_rng y1155
                                      refine lv_aload_n hx hb dL_law_637 rfl (lv_at hl 3 rfl) ?_
                                      refine lv_iload_n hx hb dL_law_638 rfl (lv_at hl 0 rfl) ?_
                                      refine lv_iconst (v := 2) hx hb dL_law_639 (by decide) ?_
                                      refine lv_iadd hx hb dL_law_640 ?_
                                      refine lv_topi (fun y1158 ey1159 => ?_)
                                      obtain ⟨k1160, hk1161, b1162, b1163⟩ := hq_add (i) (2)
                                      rw [← ey1159] at hk1161 b1162 b1163
                                      have hk1161 : (y1158).toInt = (i).toInt + (2 : Int) + k1160 * 4294967296 := hk1161
                                      obtain rfl : k1160 = 0 := by omega
                                      refine va_sld hx hb hX hbl hbA hZ.2.1 (hq_in (by omega) (by omega)) dL_law_641 ?_
                                      refine lv_topi (fun y1164 ey1165 => ?_)
                                      have b1166 := hq_rng y1164
                                      refine lv_aload_n hx hb dL_law_642 rfl (lv_at hl 3 rfl) ?_
                                      refine lv_iload_n hx hb dL_law_643 rfl (lv_at hl 0 rfl) ?_
                                      refine lv_iconst (v := 3) hx hb dL_law_644 (by decide) ?_
                                      refine lv_iadd hx hb dL_law_645 ?_
                                      refine lv_topi (fun y1167 ey1168 => ?_)
                                      obtain ⟨k1169, hk1170, b1171, b1172⟩ := hq_add (i) (3)
                                      rw [← ey1168] at hk1170 b1171 b1172
                                      have hk1170 : (y1167).toInt = (i).toInt + (3 : Int) + k1169 * 4294967296 := hk1170
                                      obtain rfl : k1169 = 0 := by omega
                                      refine va_sld hx hb hX hbl hbA hZ.2.1 (hq_in (by omega) (by omega)) dL_law_646 ?_
                                      refine lv_topi (fun y1173 ey1174 => ?_)
                                      have b1175 := hq_rng y1173
                                      refine lv_aload_n hx hb dL_law_647 rfl (lv_at hl 3 rfl) ?_
                                      refine lv_iload_n hx hb dL_law_648 rfl (lv_at hl 0 rfl) ?_
                                      refine lv_iconst (v := 4) hx hb dL_law_649 (by decide) ?_
                                      refine lv_iadd hx hb dL_law_650 ?_
                                      refine lv_topi (fun y1176 ey1177 => ?_)
                                      obtain ⟨k1178, hk1179, b1180, b1181⟩ := hq_add (i) (4)
                                      rw [← ey1177] at hk1179 b1180 b1181
                                      have hk1179 : (y1176).toInt = (i).toInt + (4 : Int) + k1178 * 4294967296 := hk1179
                                      obtain rfl : k1178 = 0 := by omega
                                      refine va_sld hx hb hX hbl hbA hZ.2.1 (hq_in (by omega) (by omega)) dL_law_651 ?_
                                      refine lv_topi (fun y1182 ey1183 => ?_)
                                      have b1184 := hq_rng y1182
                                      have fx1191 : V1126 (mo) = some (.inr (13, hm_o q (m_tp) (m_sz) (m_fr) (m_bh) (m_hd) (m_ft) (m_fa) (m_le) (m_fo) (m_as) (m_fd) (m_bc) (m_bg) (m_bs) (m_be) (m_b0) (m_b1) (m_cm) (m_hc))) := (hq1130.2 (mo) _ ty20 rfl).trans (ho_m)
                                      refine hp_calli (hp_runV (As := [.int (y1155), .int (y1164), .int (y1173), .int (y1182)]) (rest := []) hx hb hml hown hts (t_X13_answer l D cs B G  V1126 n hP.1 q hR (mo) ty20 (y1155) (y1164) (y1173) (y1182) fx1191  (by omega) (by omega) (by omega) (by omega) (by omega) (by omega) (by omega) (by omega) (hVQ.keep hR (fun x t hx hg => hq1130.2 x t hx (by simp [hg])))) hZ fx1191 cv_L_78 rfl rfl ⟨Nat.le_of_ble_eq_true rfl, Nat.le_of_ble_eq_true rfl⟩ rfl hl.1 rfl (Nat.le_of_ble_eq_true rfl) dL_law_652 ⟨(Nat.le_of_ble_eq_true rfl), (Nat.le_of_ble_eq_true rfl)⟩) hZ (fun r1188 V1185 n1186 _ _ hw1187 hZ => ?_)
                                      obtain ⟨rfl, hq1189, ⟨z1192, z1193, z1194, z1195, z1196, z1197, z1198, z1199, z1200, z1201, z1202, z1203, ho1204, hi1205, hi1206, hi1207, hi1208, hi1209, hi1210, hi1211⟩, hr1190⟩ := hw1187
                                      have hP := hP.trans hq1189 (by intro g h; simp_all)
                                      have b1212 := hq_rng z1192
                                      have b1213 := hq_rng z1197
                                      have b1214 := hq_rng z1194
                                      have b1215 := hq_rng z1193
                                      have b1216 := hq_rng z1198
                                      have b1217 := hq_rng z1199
                                      have b1218 := hq_rng z1200
                                      have b1219 := hq_rng z1201
                                      have b1220 := hq_rng z1202
                                      have b1221 := hq_rng z1203
                                      have b1222 := hq_rng z1195
                                      have b1223 := hq_rng z1196
                                      have b1224 := hq_rng r1188
                                      refine lv_pop hx hb dL_law_655 rfl ?_
                                      refine lv_goto (tgt := 761) hx hb dL_law_656 (by decide) ?_
                                      obtain ⟨y1225, ey1226⟩ : ∃ y : Int32, y = i + (6) := ⟨_, rfl⟩
                                      obtain ⟨k1227, hk1228, b1229, b1230⟩ := hq_add (i) (6)
                                      rw [← ey1226] at hk1228 b1229 b1230
                                      have hk1228 : (y1225).toInt = (i).toInt + (6) + k1227 * 4294967296 := hk1228
                                      refine lv_iinc (v := y1225) (lv' := [(3, .int (y1225)), (2, .ref (mo)), (1, .ref (a)), (0, .ref (b))]) hx hb dL_law_761 hl (k := 0) rfl (by rw [ey1226]; rfl) (by decide) rfl (fun ls hl => ?_)
                                      refine lv_goto (tgt := 18) hx hb dL_law_764 (by decide) ?_
                                      have fx1231 : V1185 (a) = some (.inr (11, [.ref (n), .ref (n + 2), .ref (n + 5), .ref (n + 46), .ref (n + 50), .ref (n + 62), .ref (n + 87), .int (c_fs), .ref (n + 465), .ref (n + 88)])) := (hq1189.2 (a) _ ty0 rfl).trans (ho1132)
                                      have fx1232 : V1185 (n + 2) = some (.inr (7, [.int (q_fk), .int (q_fp), q_tx, q_ou, .int (q_nx), .int (q_tk), .int (q_st), .ref (n + 3)])) := (hq1189.2 (n + 2) _ ty3 rfl).trans ((hq1130.2 (n + 2) _ ty3 rfl).trans (ho_p))
                                      have fx1233 : V1185 (n + 50) = some (.inr (1, [.ref (n + 51), .ref (n + 52), .int (z1140), .ref (n + 53), .ref (n + 55), .ref (n + 57), v1137, v1138, v1139, .int (z1141), .ref (n + 59), .ref (n + 60), .ref (n + 61)])) := (hq1189.2 (n + 50) _ ty7 rfl).trans (ho1142)
                                      have fx1234 : V1185 (n) = some (.inr (9, [.ref (n + 1), .int (z1133)])) := (hq1189.2 (n) _ ty1 rfl).trans (ho1134)
                                      have hinv9 : hk_Inv cs G a n mo q V1185 := ⟨hP.1, ⟨_, _, _, fx1231, Or.inr ⟨rfl, rfl⟩, by omega, hJ.keep hP.1 ty19 (fun x t hx hg => (hq_lgp hq1189 hx hg (fun _ => rfl)).trans (hq_lgp hq1130 hx hg (fun _ => rfl)))⟩, ⟨_, _, _, _, _, _, _, fx1232⟩, ⟨_, _, _, _, _, fx1233, by omega, by omega⟩, ⟨_, _, _, _, _, _, _, _, _, _, _, _, _, _, _, _, _, _, _, _, fx1234, ho1204, by omega, by omega, by omega, by omega, by omega, by omega, by omega, by omega, by omega⟩, (hVQ.keep hR (fun x t hx hg => (hq1189.2 x t hx (by simp [hg])).trans (hq1130.2 x t hx (by simp [hg])))), (by obtain ⟨fs9, h9⟩ := hst; exact ⟨fs9, ((hq1189.2 _ _ (hr_19 hR) rfl).trans (hq1130.2 _ _ (hr_19 hR) rfl)).trans h9⟩)⟩
                                      exact ih _ (by omega) _ _ _ ls (y1225) rfl hZ hinv9 (by omega) (by omega) (lv_sub hl [0, 1, 2, 3] rfl)
                                    ·
                                      rcases Classical.em (y14 = 15) with h1235 | h1235
                                      · refine lv_tableIn (off := 626) (tgt := 659) hx hb dL_law_33 (by rw [h1235]; decide) (by rw [h1235]; decide) (by rw [h1235]; decide) (by decide) ?_
                                        have b1236 : (y14).toInt = 15 := by rw [h1235]; decide
                                        refine lv_aload_n hx hb dL_law_659 rfl (lv_at hl 2 rfl) ?_
                                        refine lv_aload_n hx hb dL_law_660 rfl (lv_at hl 3 rfl) ?_
                                        refine lv_iload_n hx hb dL_law_661 rfl (lv_at hl 0 rfl) ?_
                                        refine lv_iconst (v := 1) hx hb dL_law_662 (by decide) ?_
                                        refine lv_iadd hx hb dL_law_663 ?_
                                        refine lv_topi (fun y1237 ey1238 => ?_)
                                        obtain ⟨k1239, hk1240, b1241, b1242⟩ := hq_add (i) (1)
                                        rw [← ey1238] at hk1240 b1241 b1242
                                        have hk1240 : (y1237).toInt = (i).toInt + (1 : Int) + k1239 * 4294967296 := hk1240
                                        obtain rfl : k1239 = 0 := by omega
                                        refine va_sld hx hb hX hbl hbA hZ.2.1 (hq_in (by omega) (by omega)) dL_law_664 ?_
                                        refine lv_topi (fun y1243 ey1244 => ?_)
                                        have b1245 := hq_rng y1243
                                        refine hp_calli (hp_runV (As := [.int (y1243)]) (rest := []) hx hb hml hown hts (t_X11_change_1 l D cs B G  V9 n hP.1  (a) ty0 (y1243) ho_a ty1 ty3 ty5 ty6 ty7 ty16 ty17 ty19 ty18 (by omega) ho_e ty8 ty9 ty10 ty11 ty12 ty13 ty14 ty15 (by omega) (by omega) ) hZ ho_a cv_L_79 rfl rfl ⟨Nat.le_of_ble_eq_true rfl, Nat.le_of_ble_eq_true rfl⟩ rfl hl.1 rfl (Nat.le_of_ble_eq_true rfl) dL_law_665 ⟨(Nat.le_of_ble_eq_true rfl), (Nat.le_of_ble_eq_true rfl)⟩) hZ (fun r1249 V1246 n1247 _ _ hw1248 hZ => ?_)
                                        obtain ⟨rfl, hq1250, ho1252, ho1253, hr1251⟩ := hw1248
                                        have hP := hP.trans hq1250 (fun _ _ => rfl)
                                        have b1254 := hq_rng r1249
                                        refine lv_pop hx hb dL_law_668 rfl ?_
                                        refine lv_aload_n hx hb dL_law_669 rfl (lv_at hl 1 rfl) ?_
                                        refine lv_aload_n hx hb dL_law_670 rfl (lv_at hl 3 rfl) ?_
                                        refine lv_iload_n hx hb dL_law_671 rfl (lv_at hl 0 rfl) ?_
                                        refine lv_iconst (v := 1) hx hb dL_law_672 (by decide) ?_
                                        refine lv_iadd hx hb dL_law_673 ?_
                                        refine lv_topi (fun y1255 ey1256 => ?_)
                                        obtain ⟨k1257, hk1258, b1259, b1260⟩ := hq_add (i) (1)
                                        rw [← ey1256] at hk1258 b1259 b1260
                                        have hk1258 : (y1255).toInt = (i).toInt + (1 : Int) + k1257 * 4294967296 := hk1258
                                        obtain rfl : k1257 = 0 := by omega
                                        refine va_sld hx hb hX hbl hbA hZ.2.1 (hq_in (by omega) (by omega)) dL_law_674 ?_
                                        refine lv_topi (fun y1261 ey1262 => ?_)
                                        have b1263 := hq_rng y1261
                                        have fx1270 : V1246 (mo) = some (.inr (13, hm_o q (m_tp) (m_sz) (m_fr) (m_bh) (m_hd) (m_ft) (m_fa) (m_le) (m_fo) (m_as) (m_fd) (m_bc) (m_bg) (m_bs) (m_be) (m_b0) (m_b1) (m_cm) (m_hc))) := (hq1250.2 (mo) _ ty20 rfl).trans (ho_m)
                                        refine hp_calli (hp_runV (As := [.int (y1261)]) (rest := []) hx hb hml hown hts (t_X13_change l D cs B G  V1246 n hP.1 q hR (mo) ty20 (y1261) fx1270  (by omega) (by omega) (by omega) (by omega) (by omega) (by omega) (by omega) (by omega) ) hZ fx1270 cv_L_82 rfl rfl ⟨Nat.le_of_ble_eq_true rfl, Nat.le_of_ble_eq_true rfl⟩ rfl hl.1 rfl (Nat.le_of_ble_eq_true rfl) dL_law_675 ⟨(Nat.le_of_ble_eq_true rfl), (Nat.le_of_ble_eq_true rfl)⟩) hZ (fun r1267 V1264 n1265 _ _ hw1266 hZ => ?_)
                                        obtain ⟨rfl, hq1268, ho1271, hr1269⟩ := hw1266
                                        have hP := hP.trans hq1268 (fun _ _ => rfl)
                                        have b1272 := hq_rng r1267
                                        refine lv_pop hx hb dL_law_678 rfl ?_
                                        refine lv_goto (tgt := 761) hx hb dL_law_679 (by decide) ?_
                                        obtain ⟨y1273, ey1274⟩ : ∃ y : Int32, y = i + (6) := ⟨_, rfl⟩
                                        obtain ⟨k1275, hk1276, b1277, b1278⟩ := hq_add (i) (6)
                                        rw [← ey1274] at hk1276 b1277 b1278
                                        have hk1276 : (y1273).toInt = (i).toInt + (6) + k1275 * 4294967296 := hk1276
                                        refine lv_iinc (v := y1273) (lv' := [(3, .int (y1273)), (2, .ref (mo)), (1, .ref (a)), (0, .ref (b))]) hx hb dL_law_761 hl (k := 0) rfl (by rw [ey1274]; rfl) (by decide) rfl (fun ls hl => ?_)
                                        refine lv_goto (tgt := 18) hx hb dL_law_764 (by decide) ?_
                                        have fx1279 : V1264 (a) = some (.inr (11, [.ref (n), .ref (n + 2), .ref (n + 5), .ref (n + 46), .ref (n + 50), .ref (n + 62), .ref (n + 87), .int (c_fs), .ref (n + 465), .ref (n + 88)])) := (hq1268.2 (a) _ ty0 rfl).trans (ho1252)
                                        have fx1280 : V1264 (n + 2) = some (.inr (7, [.int (q_fk), .int (q_fp), q_tx, q_ou, .int (q_nx), .int (q_tk), .int (q_st), .ref (n + 3)])) := (hq1268.2 (n + 2) _ ty3 rfl).trans ((hq1250.2 (n + 2) _ ty3 rfl).trans (ho_p))
                                        have fx1281 : V1264 (n + 50) = some (.inr (1, [.ref (n + 51), .ref (n + 52), .int (e_fd), .ref (n + 53), .ref (n + 55), .ref (n + 57), e_bk, e_an, e_mk, .int (e_sz), .ref (n + 59), .ref (n + 60), .ref (n + 61)])) := (hq1268.2 (n + 50) _ ty7 rfl).trans (ho1253)
                                        have fx1282 : V1264 (n) = some (.inr (9, [.ref (n + 1), .int (p_z)])) := (hq1268.2 (n) _ ty1 rfl).trans ((hq1250.2 (n) _ ty1 rfl).trans (ho_n))
                                        have hinv9 : hk_Inv cs G a n mo q V1264 := ⟨hP.1, ⟨_, _, _, fx1279, Or.inr ⟨rfl, rfl⟩, by omega, hJ.keep hP.1 ty19 (fun x t hx hg => (hq_lgp hq1268 hx hg (fun _ => rfl)).trans (hq_lgp hq1250 hx hg (fun _ => rfl)))⟩, ⟨_, _, _, _, _, _, _, fx1280⟩, ⟨_, _, _, _, _, fx1281, by omega, by omega⟩, ⟨_, _, _, _, _, _, _, _, _, _, _, _, _, _, _, _, _, _, _, _, fx1282, ho1271, by omega, by omega, by omega, by omega, by omega, by omega, by omega, by omega, by omega⟩, (hVQ.keep hR (fun x t hx hg => (hq1268.2 x t hx (by simp [hg])).trans (hq1250.2 x t hx (by simp [hg])))), (by obtain ⟨fs9, h9⟩ := hst; exact ⟨fs9, ((hq1268.2 _ _ (hr_19 hR) rfl).trans (hq1250.2 _ _ (hr_19 hR) rfl)).trans h9⟩)⟩
                                        exact ih _ (by omega) _ _ _ ls (y1273) rfl hZ hinv9 (by omega) (by omega) (lv_sub hl [0, 1, 2, 3] rfl)
                                      ·
                                        rcases Classical.em (y14 = 16) with h1283 | h1283
                                        · refine lv_tableIn (off := 649) (tgt := 682) hx hb dL_law_33 (by rw [h1283]; decide) (by rw [h1283]; decide) (by rw [h1283]; decide) (by decide) ?_
                                          have b1284 : (y14).toInt = 16 := by rw [h1283]; decide
                                          refine lv_aload_n hx hb dL_law_682 rfl (lv_at hl 2 rfl) ?_
                                          refine lv_aload_n hx hb dL_law_683 rfl (lv_at hl 3 rfl) ?_
                                          refine lv_iload_n hx hb dL_law_684 rfl (lv_at hl 0 rfl) ?_
                                          refine lv_iconst (v := 1) hx hb dL_law_685 (by decide) ?_
                                          refine lv_iadd hx hb dL_law_686 ?_
                                          refine lv_topi (fun y1285 ey1286 => ?_)
                                          obtain ⟨k1287, hk1288, b1289, b1290⟩ := hq_add (i) (1)
                                          rw [← ey1286] at hk1288 b1289 b1290
                                          have hk1288 : (y1285).toInt = (i).toInt + (1 : Int) + k1287 * 4294967296 := hk1288
                                          obtain rfl : k1287 = 0 := by omega
                                          refine va_sld hx hb hX hbl hbA hZ.2.1 (hq_in (by omega) (by omega)) dL_law_687 ?_
                                          refine lv_topi (fun y1291 ey1292 => ?_)
                                          have b1293 := hq_rng y1291
                                          refine lv_aload_n hx hb dL_law_688 rfl (lv_at hl 3 rfl) ?_
                                          refine lv_iload_n hx hb dL_law_689 rfl (lv_at hl 0 rfl) ?_
                                          refine lv_iconst (v := 2) hx hb dL_law_690 (by decide) ?_
                                          refine lv_iadd hx hb dL_law_691 ?_
                                          refine lv_topi (fun y1294 ey1295 => ?_)
                                          obtain ⟨k1296, hk1297, b1298, b1299⟩ := hq_add (i) (2)
                                          rw [← ey1295] at hk1297 b1298 b1299
                                          have hk1297 : (y1294).toInt = (i).toInt + (2 : Int) + k1296 * 4294967296 := hk1297
                                          obtain rfl : k1296 = 0 := by omega
                                          refine va_sld hx hb hX hbl hbA hZ.2.1 (hq_in (by omega) (by omega)) dL_law_692 ?_
                                          refine lv_topi (fun y1300 ey1301 => ?_)
                                          have b1302 := hq_rng y1300
                                          refine hp_calli (hp_runV (As := [.int (y1291), .int (y1300)]) (rest := []) hx hb hml hown hts (t_X11_misses_1 l D cs B G  V9 n hP.1  (a) ty0 (y1291) (y1300) ho_a ty1 ty3 ty5 ty6 ty7 ty16 ty17 ty19 ty18 (by omega) ) hZ ho_a cv_L_83 rfl rfl ⟨Nat.le_of_ble_eq_true rfl, Nat.le_of_ble_eq_true rfl⟩ rfl hl.1 rfl (Nat.le_of_ble_eq_true rfl) dL_law_693 ⟨(Nat.le_of_ble_eq_true rfl), (Nat.le_of_ble_eq_true rfl)⟩) hZ (fun r1306 V1303 n1304 _ _ hw1305 hZ => ?_)
                                          obtain ⟨rfl, hq1307, ho1309, hr1308⟩ := hw1305
                                          have hP := hP.trans hq1307 (fun _ _ => rfl)
                                          have b1310 := hq_rng r1306
                                          refine lv_pop hx hb dL_law_696 rfl ?_
                                          refine lv_aload_n hx hb dL_law_697 rfl (lv_at hl 1 rfl) ?_
                                          refine lv_aload_n hx hb dL_law_698 rfl (lv_at hl 3 rfl) ?_
                                          refine lv_iload_n hx hb dL_law_699 rfl (lv_at hl 0 rfl) ?_
                                          refine lv_iconst (v := 1) hx hb dL_law_700 (by decide) ?_
                                          refine lv_iadd hx hb dL_law_701 ?_
                                          refine lv_topi (fun y1311 ey1312 => ?_)
                                          obtain ⟨k1313, hk1314, b1315, b1316⟩ := hq_add (i) (1)
                                          rw [← ey1312] at hk1314 b1315 b1316
                                          have hk1314 : (y1311).toInt = (i).toInt + (1 : Int) + k1313 * 4294967296 := hk1314
                                          obtain rfl : k1313 = 0 := by omega
                                          refine va_sld hx hb hX hbl hbA hZ.2.1 (hq_in (by omega) (by omega)) dL_law_702 ?_
                                          refine lv_topi (fun y1317 ey1318 => ?_)
                                          have b1319 := hq_rng y1317
                                          refine lv_aload_n hx hb dL_law_703 rfl (lv_at hl 3 rfl) ?_
                                          refine lv_iload_n hx hb dL_law_704 rfl (lv_at hl 0 rfl) ?_
                                          refine lv_iconst (v := 2) hx hb dL_law_705 (by decide) ?_
                                          refine lv_iadd hx hb dL_law_706 ?_
                                          refine lv_topi (fun y1320 ey1321 => ?_)
                                          obtain ⟨k1322, hk1323, b1324, b1325⟩ := hq_add (i) (2)
                                          rw [← ey1321] at hk1323 b1324 b1325
                                          have hk1323 : (y1320).toInt = (i).toInt + (2 : Int) + k1322 * 4294967296 := hk1323
                                          obtain rfl : k1322 = 0 := by omega
                                          refine va_sld hx hb hX hbl hbA hZ.2.1 (hq_in (by omega) (by omega)) dL_law_707 ?_
                                          refine lv_topi (fun y1326 ey1327 => ?_)
                                          have b1328 := hq_rng y1326
                                          have fx1335 : V1303 (mo) = some (.inr (13, hm_o q (m_tp) (m_sz) (m_fr) (m_bh) (m_hd) (m_ft) (m_fa) (m_le) (m_fo) (m_as) (m_fd) (m_bc) (m_bg) (m_bs) (m_be) (m_b0) (m_b1) (m_cm) (m_hc))) := (hq1307.2 (mo) _ ty20 rfl).trans (ho_m)
                                          refine hp_calli (hp_runV (As := [.int (y1317), .int (y1326)]) (rest := []) hx hb hml hown hts (t_X13_misses l D cs B G  V1303 n hP.1 q hR (mo) ty20 (y1317) (y1326) fx1335  (by omega) (by omega) (by omega) (by omega) (by omega) (by omega) (by omega) (by omega) ) hZ fx1335 cv_L_86 rfl rfl ⟨Nat.le_of_ble_eq_true rfl, Nat.le_of_ble_eq_true rfl⟩ rfl hl.1 rfl (Nat.le_of_ble_eq_true rfl) dL_law_708 ⟨(Nat.le_of_ble_eq_true rfl), (Nat.le_of_ble_eq_true rfl)⟩) hZ (fun r1332 V1329 n1330 _ _ hw1331 hZ => ?_)
                                          obtain ⟨rfl, hq1333, ho1336, hr1334⟩ := hw1331
                                          have hP := hP.trans hq1333 (fun _ _ => rfl)
                                          have b1337 := hq_rng r1332
                                          refine lv_pop hx hb dL_law_711 rfl ?_
                                          refine lv_goto (tgt := 761) hx hb dL_law_712 (by decide) ?_
                                          obtain ⟨y1338, ey1339⟩ : ∃ y : Int32, y = i + (6) := ⟨_, rfl⟩
                                          obtain ⟨k1340, hk1341, b1342, b1343⟩ := hq_add (i) (6)
                                          rw [← ey1339] at hk1341 b1342 b1343
                                          have hk1341 : (y1338).toInt = (i).toInt + (6) + k1340 * 4294967296 := hk1341
                                          refine lv_iinc (v := y1338) (lv' := [(3, .int (y1338)), (2, .ref (mo)), (1, .ref (a)), (0, .ref (b))]) hx hb dL_law_761 hl (k := 0) rfl (by rw [ey1339]; rfl) (by decide) rfl (fun ls hl => ?_)
                                          refine lv_goto (tgt := 18) hx hb dL_law_764 (by decide) ?_
                                          have fx1344 : V1329 (a) = some (.inr (11, [.ref (n), .ref (n + 2), .ref (n + 5), .ref (n + 46), .ref (n + 50), .ref (n + 62), .ref (n + 87), .int (c_fs), .ref (n + 465), .ref (n + 88)])) := (hq1333.2 (a) _ ty0 rfl).trans (ho1309)
                                          have fx1345 : V1329 (n + 2) = some (.inr (7, [.int (q_fk), .int (q_fp), q_tx, q_ou, .int (q_nx), .int (q_tk), .int (q_st), .ref (n + 3)])) := (hq1333.2 (n + 2) _ ty3 rfl).trans ((hq1307.2 (n + 2) _ ty3 rfl).trans (ho_p))
                                          have fx1346 : V1329 (n + 50) = some (.inr (1, [.ref (n + 51), .ref (n + 52), .int (e_fd), .ref (n + 53), .ref (n + 55), .ref (n + 57), e_bk, e_an, e_mk, .int (e_sz), .ref (n + 59), .ref (n + 60), .ref (n + 61)])) := (hq1333.2 (n + 50) _ ty7 rfl).trans ((hq1307.2 (n + 50) _ ty7 rfl).trans (ho_e))
                                          have fx1347 : V1329 (n) = some (.inr (9, [.ref (n + 1), .int (p_z)])) := (hq1333.2 (n) _ ty1 rfl).trans ((hq1307.2 (n) _ ty1 rfl).trans (ho_n))
                                          have hinv9 : hk_Inv cs G a n mo q V1329 := ⟨hP.1, ⟨_, _, _, fx1344, Or.inr ⟨rfl, rfl⟩, by omega, hJ.keep hP.1 ty19 (fun x t hx hg => (hq_lgp hq1333 hx hg (fun _ => rfl)).trans (hq_lgp hq1307 hx hg (fun _ => rfl)))⟩, ⟨_, _, _, _, _, _, _, fx1345⟩, ⟨_, _, _, _, _, fx1346, by omega, by omega⟩, ⟨_, _, _, _, _, _, _, _, _, _, _, _, _, _, _, _, _, _, _, _, fx1347, ho1336, by omega, by omega, by omega, by omega, by omega, by omega, by omega, by omega, by omega⟩, (hVQ.keep hR (fun x t hx hg => (hq1333.2 x t hx (by simp [hg])).trans (hq1307.2 x t hx (by simp [hg])))), (by obtain ⟨fs9, h9⟩ := hst; exact ⟨fs9, ((hq1333.2 _ _ (hr_19 hR) rfl).trans (hq1307.2 _ _ (hr_19 hR) rfl)).trans h9⟩)⟩
                                          exact ih _ (by omega) _ _ _ ls (y1338) rfl hZ hinv9 (by omega) (by omega) (lv_sub hl [0, 1, 2, 3] rfl)
                                        ·
                                          rcases Classical.em (y14 = 17) with h1348 | h1348
                                          · refine lv_tableIn (off := 682) (tgt := 715) hx hb dL_law_33 (by rw [h1348]; decide) (by rw [h1348]; decide) (by rw [h1348]; decide) (by decide) ?_
                                            have b1349 : (y14).toInt = 17 := by rw [h1348]; decide
                                            refine lv_aload_n hx hb dL_law_715 rfl (lv_at hl 2 rfl) ?_
                                            refine lv_aload_n hx hb dL_law_716 rfl (lv_at hl 3 rfl) ?_
                                            refine lv_iload_n hx hb dL_law_717 rfl (lv_at hl 0 rfl) ?_
                                            refine lv_iconst (v := 1) hx hb dL_law_718 (by decide) ?_
                                            refine lv_iadd hx hb dL_law_719 ?_
                                            refine lv_topi (fun y1350 ey1351 => ?_)
                                            obtain ⟨k1352, hk1353, b1354, b1355⟩ := hq_add (i) (1)
                                            rw [← ey1351] at hk1353 b1354 b1355
                                            have hk1353 : (y1350).toInt = (i).toInt + (1 : Int) + k1352 * 4294967296 := hk1353
                                            obtain rfl : k1352 = 0 := by omega
                                            refine va_sld hx hb hX hbl hbA hZ.2.1 (hq_in (by omega) (by omega)) dL_law_720 ?_
                                            refine lv_topi (fun y1356 ey1357 => ?_)
                                            have b1358 := hq_rng y1356
                                            refine hp_calli (hp_runV (As := [.int (y1356)]) (rest := []) hx hb hml hown hts (t_X11_drill_1 l D cs B G  V9 n hP.1  (a) ty0 (y1356) ho_a ty1 ty3 ty5 ty6 ty7 ty16 ty17 ty19 ty18 (by omega) hJ) hZ ho_a cv_L_87 rfl rfl ⟨Nat.le_of_ble_eq_true rfl, Nat.le_of_ble_eq_true rfl⟩ rfl hl.1 rfl (Nat.le_of_ble_eq_true rfl) dL_law_721 ⟨(Nat.le_of_ble_eq_true rfl), (Nat.le_of_ble_eq_true rfl)⟩) hZ (fun r1362 V1359 n1360 _ _ hw1361 hZ => ?_)
                                            obtain ⟨rfl, hq1363, ho1365, hr1364⟩ := hw1361
                                            have hP := hP.trans hq1363 (by intro g h; simp_all)
                                            have b1366 := hq_rng r1362
                                            refine lv_pop hx hb dL_law_724 rfl ?_
                                            refine lv_aload_n hx hb dL_law_725 rfl (lv_at hl 1 rfl) ?_
                                            refine lv_aload_n hx hb dL_law_726 rfl (lv_at hl 3 rfl) ?_
                                            refine lv_iload_n hx hb dL_law_727 rfl (lv_at hl 0 rfl) ?_
                                            refine lv_iconst (v := 1) hx hb dL_law_728 (by decide) ?_
                                            refine lv_iadd hx hb dL_law_729 ?_
                                            refine lv_topi (fun y1367 ey1368 => ?_)
                                            obtain ⟨k1369, hk1370, b1371, b1372⟩ := hq_add (i) (1)
                                            rw [← ey1368] at hk1370 b1371 b1372
                                            have hk1370 : (y1367).toInt = (i).toInt + (1 : Int) + k1369 * 4294967296 := hk1370
                                            obtain rfl : k1369 = 0 := by omega
                                            refine va_sld hx hb hX hbl hbA hZ.2.1 (hq_in (by omega) (by omega)) dL_law_730 ?_
                                            refine lv_topi (fun y1373 ey1374 => ?_)
                                            have b1375 := hq_rng y1373
                                            have fx1382 : V1359 (mo) = some (.inr (13, hm_o q (m_tp) (m_sz) (m_fr) (m_bh) (m_hd) (m_ft) (m_fa) (m_le) (m_fo) (m_as) (m_fd) (m_bc) (m_bg) (m_bs) (m_be) (m_b0) (m_b1) (m_cm) (m_hc))) := (hq1363.2 (mo) _ ty20 rfl).trans (ho_m)
                                            refine hp_calli (hp_runV (As := [.int (y1373)]) (rest := []) hx hb hml hown hts (t_X13_drill l D cs B G  V1359 n hP.1 q hR (mo) ty20 (y1373) fx1382  (by omega) (by omega) (by omega) (by omega) (by omega) (by omega) (by omega) (by omega) (hVQ.keep hR (fun x t hx hg => hq1363.2 x t hx (by simp [hg])))) hZ fx1382 cv_L_90 rfl rfl ⟨Nat.le_of_ble_eq_true rfl, Nat.le_of_ble_eq_true rfl⟩ rfl hl.1 rfl (Nat.le_of_ble_eq_true rfl) dL_law_731 ⟨(Nat.le_of_ble_eq_true rfl), (Nat.le_of_ble_eq_true rfl)⟩) hZ (fun r1379 V1376 n1377 _ _ hw1378 hZ => ?_)
                                            obtain ⟨rfl, hq1380, ⟨z1383, z1384, ho1385, hi1386, hi1387⟩, hr1381⟩ := hw1378
                                            have hP := hP.trans hq1380 (by intro g h; simp_all)
                                            have b1388 := hq_rng z1384
                                            have b1389 := hq_rng z1383
                                            have b1390 := hq_rng r1379
                                            refine lv_pop hx hb dL_law_734 rfl ?_
                                            refine lv_goto (tgt := 761) hx hb dL_law_735 (by decide) ?_
                                            obtain ⟨y1391, ey1392⟩ : ∃ y : Int32, y = i + (6) := ⟨_, rfl⟩
                                            obtain ⟨k1393, hk1394, b1395, b1396⟩ := hq_add (i) (6)
                                            rw [← ey1392] at hk1394 b1395 b1396
                                            have hk1394 : (y1391).toInt = (i).toInt + (6) + k1393 * 4294967296 := hk1394
                                            refine lv_iinc (v := y1391) (lv' := [(3, .int (y1391)), (2, .ref (mo)), (1, .ref (a)), (0, .ref (b))]) hx hb dL_law_761 hl (k := 0) rfl (by rw [ey1392]; rfl) (by decide) rfl (fun ls hl => ?_)
                                            refine lv_goto (tgt := 18) hx hb dL_law_764 (by decide) ?_
                                            have fx1397 : V1376 (a) = some (.inr (11, [.ref (n), .ref (n + 2), .ref (n + 5), .ref (n + 46), .ref (n + 50), .ref (n + 62), .ref (n + 87), .int (c_fs), .ref (n + 465), .ref (n + 88)])) := (hq1380.2 (a) _ ty0 rfl).trans (ho1365)
                                            have fx1398 : V1376 (n + 2) = some (.inr (7, [.int (q_fk), .int (q_fp), q_tx, q_ou, .int (q_nx), .int (q_tk), .int (q_st), .ref (n + 3)])) := (hq1380.2 (n + 2) _ ty3 rfl).trans ((hq1363.2 (n + 2) _ ty3 rfl).trans (ho_p))
                                            have fx1399 : V1376 (n + 50) = some (.inr (1, [.ref (n + 51), .ref (n + 52), .int (e_fd), .ref (n + 53), .ref (n + 55), .ref (n + 57), e_bk, e_an, e_mk, .int (e_sz), .ref (n + 59), .ref (n + 60), .ref (n + 61)])) := (hq1380.2 (n + 50) _ ty7 rfl).trans ((hq1363.2 (n + 50) _ ty7 rfl).trans (ho_e))
                                            have fx1400 : V1376 (n) = some (.inr (9, [.ref (n + 1), .int (p_z)])) := (hq1380.2 (n) _ ty1 rfl).trans ((hq1363.2 (n) _ ty1 rfl).trans (ho_n))
                                            have hinv9 : hk_Inv cs G a n mo q V1376 := ⟨hP.1, ⟨_, _, _, fx1397, Or.inr ⟨rfl, rfl⟩, by omega, hJ.keep hP.1 ty19 (fun x t hx hg => (hq_lgp hq1380 hx hg (fun _ => rfl)).trans (hq_lgp hq1363 hx hg (fun _ => rfl)))⟩, ⟨_, _, _, _, _, _, _, fx1398⟩, ⟨_, _, _, _, _, fx1399, by omega, by omega⟩, ⟨_, _, _, _, _, _, _, _, _, _, _, _, _, _, _, _, _, _, _, _, fx1400, ho1385, by omega, by omega, by omega, by omega, by omega, by omega, by omega, by omega, by omega⟩, (hVQ.keep hR (fun x t hx hg => (hq1380.2 x t hx (by simp [hg])).trans (hq1363.2 x t hx (by simp [hg])))), (by obtain ⟨fs9, h9⟩ := hst; exact ⟨fs9, ((hq1380.2 _ _ (hr_19 hR) rfl).trans (hq1363.2 _ _ (hr_19 hR) rfl)).trans h9⟩)⟩
                                            exact ih _ (by omega) _ _ _ ls (y1391) rfl hZ hinv9 (by omega) (by omega) (lv_sub hl [0, 1, 2, 3] rfl)
                                          ·
                                            rcases Classical.em (y14 = 18) with h1401 | h1401
                                            · refine lv_tableIn (off := 705) (tgt := 738) hx hb dL_law_33 (by rw [h1401]; decide) (by rw [h1401]; decide) (by rw [h1401]; decide) (by decide) ?_
                                              have b1402 : (y14).toInt = 18 := by rw [h1401]; decide
                                              refine lv_aload_n hx hb dL_law_738 rfl (lv_at hl 2 rfl) ?_
                                              refine lv_aload_n hx hb dL_law_739 rfl (lv_at hl 3 rfl) ?_
                                              refine lv_iload_n hx hb dL_law_740 rfl (lv_at hl 0 rfl) ?_
                                              refine lv_iconst (v := 1) hx hb dL_law_741 (by decide) ?_
                                              refine lv_iadd hx hb dL_law_742 ?_
                                              refine lv_topi (fun y1403 ey1404 => ?_)
                                              obtain ⟨k1405, hk1406, b1407, b1408⟩ := hq_add (i) (1)
                                              rw [← ey1404] at hk1406 b1407 b1408
                                              have hk1406 : (y1403).toInt = (i).toInt + (1 : Int) + k1405 * 4294967296 := hk1406
                                              obtain rfl : k1405 = 0 := by omega
                                              refine va_sld hx hb hX hbl hbA hZ.2.1 (hq_in (by omega) (by omega)) dL_law_743 ?_
                                              refine lv_topi (fun y1409 ey1410 => ?_)
                                              have b1411 := hq_rng y1409
                                              refine hp_calli (hp_runV (As := [.int (y1409)]) (rest := []) hx hb hml hown hts (t_X11_count_1 l D cs B G  V9 n hP.1  (a) ty0 (y1409) ho_a ty1 ty3 ty5 ty6 ty7 ty16 ty17 ty19 ty18 (by omega) ) hZ ho_a cv_L_91 rfl rfl ⟨Nat.le_of_ble_eq_true rfl, Nat.le_of_ble_eq_true rfl⟩ rfl hl.1 rfl (Nat.le_of_ble_eq_true rfl) dL_law_744 ⟨(Nat.le_of_ble_eq_true rfl), (Nat.le_of_ble_eq_true rfl)⟩) hZ (fun r1415 V1412 n1413 _ _ hw1414 hZ => ?_)
                                              obtain ⟨rfl, hq1416, ho1418, hr1417⟩ := hw1414
                                              have hP := hP.trans hq1416 (fun _ _ => rfl)
                                              have b1419 := hq_rng r1415
                                              refine lv_pop hx hb dL_law_747 rfl ?_
                                              refine lv_aload_n hx hb dL_law_748 rfl (lv_at hl 1 rfl) ?_
                                              refine lv_aload_n hx hb dL_law_749 rfl (lv_at hl 3 rfl) ?_
                                              refine lv_iload_n hx hb dL_law_750 rfl (lv_at hl 0 rfl) ?_
                                              refine lv_iconst (v := 1) hx hb dL_law_751 (by decide) ?_
                                              refine lv_iadd hx hb dL_law_752 ?_
                                              refine lv_topi (fun y1420 ey1421 => ?_)
                                              obtain ⟨k1422, hk1423, b1424, b1425⟩ := hq_add (i) (1)
                                              rw [← ey1421] at hk1423 b1424 b1425
                                              have hk1423 : (y1420).toInt = (i).toInt + (1 : Int) + k1422 * 4294967296 := hk1423
                                              obtain rfl : k1422 = 0 := by omega
                                              refine va_sld hx hb hX hbl hbA hZ.2.1 (hq_in (by omega) (by omega)) dL_law_753 ?_
                                              refine lv_topi (fun y1426 ey1427 => ?_)
                                              have b1428 := hq_rng y1426
                                              have fx1435 : V1412 (mo) = some (.inr (13, hm_o q (m_tp) (m_sz) (m_fr) (m_bh) (m_hd) (m_ft) (m_fa) (m_le) (m_fo) (m_as) (m_fd) (m_bc) (m_bg) (m_bs) (m_be) (m_b0) (m_b1) (m_cm) (m_hc))) := (hq1416.2 (mo) _ ty20 rfl).trans (ho_m)
                                              refine hp_calli (hp_runV (As := [.int (y1426)]) (rest := []) hx hb hml hown hts (t_X13_count l D cs B G  V1412 n hP.1 q hR (mo) ty20 (y1426) fx1435  (by omega) (by omega) (by omega) (by omega) (by omega) (by omega) (by omega) (by omega) ) hZ fx1435 cv_L_94 rfl rfl ⟨Nat.le_of_ble_eq_true rfl, Nat.le_of_ble_eq_true rfl⟩ rfl hl.1 rfl (Nat.le_of_ble_eq_true rfl) dL_law_754 ⟨(Nat.le_of_ble_eq_true rfl), (Nat.le_of_ble_eq_true rfl)⟩) hZ (fun r1432 V1429 n1430 _ _ hw1431 hZ => ?_)
                                              obtain ⟨rfl, hq1433, ho1436, hr1434⟩ := hw1431
                                              have hP := hP.trans hq1433 (fun _ _ => rfl)
                                              have b1437 := hq_rng r1432
                                              refine lv_pop hx hb dL_law_757 rfl ?_
                                              refine lv_goto (tgt := 761) hx hb dL_law_758 (by decide) ?_
                                              obtain ⟨y1438, ey1439⟩ : ∃ y : Int32, y = i + (6) := ⟨_, rfl⟩
                                              obtain ⟨k1440, hk1441, b1442, b1443⟩ := hq_add (i) (6)
                                              rw [← ey1439] at hk1441 b1442 b1443
                                              have hk1441 : (y1438).toInt = (i).toInt + (6) + k1440 * 4294967296 := hk1441
                                              refine lv_iinc (v := y1438) (lv' := [(3, .int (y1438)), (2, .ref (mo)), (1, .ref (a)), (0, .ref (b))]) hx hb dL_law_761 hl (k := 0) rfl (by rw [ey1439]; rfl) (by decide) rfl (fun ls hl => ?_)
                                              refine lv_goto (tgt := 18) hx hb dL_law_764 (by decide) ?_
                                              have fx1444 : V1429 (a) = some (.inr (11, [.ref (n), .ref (n + 2), .ref (n + 5), .ref (n + 46), .ref (n + 50), .ref (n + 62), .ref (n + 87), .int (c_fs), .ref (n + 465), .ref (n + 88)])) := (hq1433.2 (a) _ ty0 rfl).trans (ho1418)
                                              have fx1445 : V1429 (n + 2) = some (.inr (7, [.int (q_fk), .int (q_fp), q_tx, q_ou, .int (q_nx), .int (q_tk), .int (q_st), .ref (n + 3)])) := (hq1433.2 (n + 2) _ ty3 rfl).trans ((hq1416.2 (n + 2) _ ty3 rfl).trans (ho_p))
                                              have fx1446 : V1429 (n + 50) = some (.inr (1, [.ref (n + 51), .ref (n + 52), .int (e_fd), .ref (n + 53), .ref (n + 55), .ref (n + 57), e_bk, e_an, e_mk, .int (e_sz), .ref (n + 59), .ref (n + 60), .ref (n + 61)])) := (hq1433.2 (n + 50) _ ty7 rfl).trans ((hq1416.2 (n + 50) _ ty7 rfl).trans (ho_e))
                                              have fx1447 : V1429 (n) = some (.inr (9, [.ref (n + 1), .int (p_z)])) := (hq1433.2 (n) _ ty1 rfl).trans ((hq1416.2 (n) _ ty1 rfl).trans (ho_n))
                                              have hinv9 : hk_Inv cs G a n mo q V1429 := ⟨hP.1, ⟨_, _, _, fx1444, Or.inr ⟨rfl, rfl⟩, by omega, hJ.keep hP.1 ty19 (fun x t hx hg => (hq_lgp hq1433 hx hg (fun _ => rfl)).trans (hq_lgp hq1416 hx hg (fun _ => rfl)))⟩, ⟨_, _, _, _, _, _, _, fx1445⟩, ⟨_, _, _, _, _, fx1446, by omega, by omega⟩, ⟨_, _, _, _, _, _, _, _, _, _, _, _, _, _, _, _, _, _, _, _, fx1447, ho1436, by omega, by omega, by omega, by omega, by omega, by omega, by omega, by omega, by omega⟩, (hVQ.keep hR (fun x t hx hg => (hq1433.2 x t hx (by simp [hg])).trans (hq1416.2 x t hx (by simp [hg])))), (by obtain ⟨fs9, h9⟩ := hst; exact ⟨fs9, ((hq1433.2 _ _ (hr_19 hR) rfl).trans (hq1416.2 _ _ (hr_19 hR) rfl)).trans h9⟩)⟩
                                              exact ih _ (by omega) _ _ _ ls (y1438) rfl hZ hinv9 (by omega) (by omega) (lv_sub hl [0, 1, 2, 3] rfl)
                                            ·
                                              have z1448 : ¬ (y14).toInt = 0 := lv_neT h17 (by decide)
                                              have z1449 : ¬ (y14).toInt = 1 := lv_neT h146 (by decide)
                                              have z1450 : ¬ (y14).toInt = 2 := lv_neT h202 (by decide)
                                              have z1451 : ¬ (y14).toInt = 3 := lv_neT h282 (by decide)
                                              have z1452 : ¬ (y14).toInt = 4 := lv_neT h330 (by decide)
                                              have z1453 : ¬ (y14).toInt = 5 := lv_neT h395 (by decide)
                                              have z1454 : ¬ (y14).toInt = 6 := lv_neT h460 (by decide)
                                              have z1455 : ¬ (y14).toInt = 7 := lv_neT h549 (by decide)
                                              have z1456 : ¬ (y14).toInt = 8 := lv_neT h674 (by decide)
                                              have z1457 : ¬ (y14).toInt = 9 := lv_neT h799 (by decide)
                                              have z1458 : ¬ (y14).toInt = 10 := lv_neT h882 (by decide)
                                              have z1459 : ¬ (y14).toInt = 11 := lv_neT h935 (by decide)
                                              have z1460 : ¬ (y14).toInt = 12 := lv_neT h1000 (by decide)
                                              have z1461 : ¬ (y14).toInt = 13 := lv_neT h1035 (by decide)
                                              have z1462 : ¬ (y14).toInt = 14 := lv_neT h1088 (by decide)
                                              have z1463 : ¬ (y14).toInt = 15 := lv_neT h1235 (by decide)
                                              have z1464 : ¬ (y14).toInt = 16 := lv_neT h1283 (by decide)
                                              have z1465 : ¬ (y14).toInt = 17 := lv_neT h1348 (by decide)
                                              have z1466 : ¬ (y14).toInt = 18 := lv_neT h1401 (by decide)
                                              refine lv_tableOut (tgt := 761) hx hb dL_law_33 (by omega) (by decide) ?_
                                              obtain ⟨y1467, ey1468⟩ : ∃ y : Int32, y = i + (6) := ⟨_, rfl⟩
                                              obtain ⟨k1469, hk1470, b1471, b1472⟩ := hq_add (i) (6)
                                              rw [← ey1468] at hk1470 b1471 b1472
                                              have hk1470 : (y1467).toInt = (i).toInt + (6) + k1469 * 4294967296 := hk1470
                                              refine lv_iinc (v := y1467) (lv' := [(3, .int (y1467)), (2, .ref (mo)), (1, .ref (a)), (0, .ref (b))]) hx hb dL_law_761 hl (k := 0) rfl (by rw [ey1468]; rfl) (by decide) rfl (fun ls hl => ?_)
                                              refine lv_goto (tgt := 18) hx hb dL_law_764 (by decide) ?_
                                              have hinv9 : hk_Inv cs G a n mo q V9 := ⟨hP.1, ⟨_, _, _, ho_a, Or.inr ⟨rfl, rfl⟩, by omega, hJ.keep hP.1 ty19 (fun x t hx hg => rfl)⟩, ⟨_, _, _, _, _, _, _, ho_p⟩, ⟨_, _, _, _, _, ho_e, by omega, by omega⟩, ⟨_, _, _, _, _, _, _, _, _, _, _, _, _, _, _, _, _, _, _, _, ho_n, ho_m, by omega, by omega, by omega, by omega, by omega, by omega, by omega, by omega, by omega⟩, (hVQ.keep hR (fun x t hx hg => rfl)), hst⟩
                                              exact ih _ (by omega) _ _ _ ls (y1467) rfl hZ hinv9 (by omega) (by omega) (lv_sub hl [0, 1, 2, 3] rfl)
