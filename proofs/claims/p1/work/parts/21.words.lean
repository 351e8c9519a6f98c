set_option maxRecDepth 100000 in
theorem sx_RX6_77 : Cond.exactly (.string RX6 77) "java/lang/String" ∈ flatC (Jvm.Cond.and given_1 narrow_1) := by decide +kernel
set_option maxRecDepth 100000 in
theorem st_RX6_77 : Cond.stringRef RX6 77 "law" ∈ lw_tbl := by decide +kernel
theorem sr_RX6_77 {b : Nat} {s : State} (hts : ∀ w ∈ lw_tbl, w.before #[Value.ref b] s = true) (hg : ∀ w ∈ flatC (Jvm.Cond.and given_1 narrow_1), w.before #[Value.ref b] s = true) : ∃ a : Nat, vk_R RX6 77 "law" a s := by
  obtain ⟨a, c9, cell9, k9, q1, -⟩ := Cond.exactly_spec (args := #[Value.ref b]) (first := s) (o := none) (s := s) (idx := []) (t := .string RX6 77) (cls := "java/lang/String") (hg _ sx_RX6_77)
  exact ⟨a, vk_R.of (hts _ st_RX6_77) q1⟩
set_option maxRecDepth 100000 in
theorem sx_RX6_85 : Cond.exactly (.string RX6 85) "java/lang/String" ∈ flatC (Jvm.Cond.and given_1 narrow_1) := by decide +kernel
set_option maxRecDepth 100000 in
theorem st_RX6_85 : Cond.stringRef RX6 85 "look" ∈ lw_tbl := by decide +kernel
theorem sr_RX6_85 {b : Nat} {s : State} (hts : ∀ w ∈ lw_tbl, w.before #[Value.ref b] s = true) (hg : ∀ w ∈ flatC (Jvm.Cond.and given_1 narrow_1), w.before #[Value.ref b] s = true) : ∃ a : Nat, vk_R RX6 85 "look" a s := by
  obtain ⟨a, c9, cell9, k9, q1, -⟩ := Cond.exactly_spec (args := #[Value.ref b]) (first := s) (o := none) (s := s) (idx := []) (t := .string RX6 85) (cls := "java/lang/String") (hg _ sx_RX6_85)
  exact ⟨a, vk_R.of (hts _ st_RX6_85) q1⟩
set_option maxRecDepth 100000 in
theorem sx_RX6_91 : Cond.exactly (.string RX6 91) "java/lang/String" ∈ flatC (Jvm.Cond.and given_1 narrow_1) := by decide +kernel
set_option maxRecDepth 100000 in
theorem st_RX6_91 : Cond.stringRef RX6 91 "point" ∈ lw_tbl := by decide +kernel
theorem sr_RX6_91 {b : Nat} {s : State} (hts : ∀ w ∈ lw_tbl, w.before #[Value.ref b] s = true) (hg : ∀ w ∈ flatC (Jvm.Cond.and given_1 narrow_1), w.before #[Value.ref b] s = true) : ∃ a : Nat, vk_R RX6 91 "point" a s := by
  obtain ⟨a, c9, cell9, k9, q1, -⟩ := Cond.exactly_spec (args := #[Value.ref b]) (first := s) (o := none) (s := s) (idx := []) (t := .string RX6 91) (cls := "java/lang/String") (hg _ sx_RX6_91)
  exact ⟨a, vk_R.of (hts _ st_RX6_91) q1⟩
set_option maxRecDepth 100000 in
theorem sx_RX6_93 : Cond.exactly (.string RX6 93) "java/lang/String" ∈ flatC (Jvm.Cond.and given_1 narrow_1) := by decide +kernel
set_option maxRecDepth 100000 in
theorem st_RX6_93 : Cond.stringRef RX6 93 "set" ∈ lw_tbl := by decide +kernel
theorem sr_RX6_93 {b : Nat} {s : State} (hts : ∀ w ∈ lw_tbl, w.before #[Value.ref b] s = true) (hg : ∀ w ∈ flatC (Jvm.Cond.and given_1 narrow_1), w.before #[Value.ref b] s = true) : ∃ a : Nat, vk_R RX6 93 "set" a s := by
  obtain ⟨a, c9, cell9, k9, q1, -⟩ := Cond.exactly_spec (args := #[Value.ref b]) (first := s) (o := none) (s := s) (idx := []) (t := .string RX6 93) (cls := "java/lang/String") (hg _ sx_RX6_93)
  exact ⟨a, vk_R.of (hts _ st_RX6_93) q1⟩
set_option maxRecDepth 100000 in
theorem sx_RX6_98 : Cond.exactly (.string RX6 98) "java/lang/String" ∈ flatC (Jvm.Cond.and given_1 narrow_1) := by decide +kernel
set_option maxRecDepth 100000 in
theorem st_RX6_98 : Cond.stringRef RX6 98 "line" ∈ lw_tbl := by decide +kernel
theorem sr_RX6_98 {b : Nat} {s : State} (hts : ∀ w ∈ lw_tbl, w.before #[Value.ref b] s = true) (hg : ∀ w ∈ flatC (Jvm.Cond.and given_1 narrow_1), w.before #[Value.ref b] s = true) : ∃ a : Nat, vk_R RX6 98 "line" a s := by
  obtain ⟨a, c9, cell9, k9, q1, -⟩ := Cond.exactly_spec (args := #[Value.ref b]) (first := s) (o := none) (s := s) (idx := []) (t := .string RX6 98) (cls := "java/lang/String") (hg _ sx_RX6_98)
  exact ⟨a, vk_R.of (hts _ st_RX6_98) q1⟩
set_option maxRecDepth 100000 in
theorem sx_RX6_103 : Cond.exactly (.string RX6 103) "java/lang/String" ∈ flatC (Jvm.Cond.and given_1 narrow_1) := by decide +kernel
set_option maxRecDepth 100000 in
theorem st_RX6_103 : Cond.stringRef RX6 103 "ray" ∈ lw_tbl := by decide +kernel
theorem sr_RX6_103 {b : Nat} {s : State} (hts : ∀ w ∈ lw_tbl, w.before #[Value.ref b] s = true) (hg : ∀ w ∈ flatC (Jvm.Cond.and given_1 narrow_1), w.before #[Value.ref b] s = true) : ∃ a : Nat, vk_R RX6 103 "ray" a s := by
  obtain ⟨a, c9, cell9, k9, q1, -⟩ := Cond.exactly_spec (args := #[Value.ref b]) (first := s) (o := none) (s := s) (idx := []) (t := .string RX6 103) (cls := "java/lang/String") (hg _ sx_RX6_103)
  exact ⟨a, vk_R.of (hts _ st_RX6_103) q1⟩
set_option maxRecDepth 100000 in
theorem sx_RX6_108 : Cond.exactly (.string RX6 108) "java/lang/String" ∈ flatC (Jvm.Cond.and given_1 narrow_1) := by decide +kernel
set_option maxRecDepth 100000 in
theorem st_RX6_108 : Cond.stringRef RX6 108 "run" ∈ lw_tbl := by decide +kernel
theorem sr_RX6_108 {b : Nat} {s : State} (hts : ∀ w ∈ lw_tbl, w.before #[Value.ref b] s = true) (hg : ∀ w ∈ flatC (Jvm.Cond.and given_1 narrow_1), w.before #[Value.ref b] s = true) : ∃ a : Nat, vk_R RX6 108 "run" a s := by
  obtain ⟨a, c9, cell9, k9, q1, -⟩ := Cond.exactly_spec (args := #[Value.ref b]) (first := s) (o := none) (s := s) (idx := []) (t := .string RX6 108) (cls := "java/lang/String") (hg _ sx_RX6_108)
  exact ⟨a, vk_R.of (hts _ st_RX6_108) q1⟩
set_option maxRecDepth 100000 in
theorem sx_RX11_138 : Cond.exactly (.string RX11 138) "java/lang/String" ∈ flatC (Jvm.Cond.and given_1 narrow_1) := by decide +kernel
set_option maxRecDepth 100000 in
theorem st_RX11_138 : Cond.stringRef RX11 138 "law" ∈ lw_tbl := by decide +kernel
theorem sr_RX11_138 {b : Nat} {s : State} (hts : ∀ w ∈ lw_tbl, w.before #[Value.ref b] s = true) (hg : ∀ w ∈ flatC (Jvm.Cond.and given_1 narrow_1), w.before #[Value.ref b] s = true) : ∃ a : Nat, vk_R RX11 138 "law" a s := by
  obtain ⟨a, c9, cell9, k9, q1, -⟩ := Cond.exactly_spec (args := #[Value.ref b]) (first := s) (o := none) (s := s) (idx := []) (t := .string RX11 138) (cls := "java/lang/String") (hg _ sx_RX11_138)
  exact ⟨a, vk_R.of (hts _ st_RX11_138) q1⟩
set_option maxRecDepth 100000 in
theorem sx_RX11_140 : Cond.exactly (.string RX11 140) "java/lang/String" ∈ flatC (Jvm.Cond.and given_1 narrow_1) := by decide +kernel
set_option maxRecDepth 100000 in
theorem st_RX11_140 : Cond.stringRef RX11 140 "look" ∈ lw_tbl := by decide +kernel
theorem sr_RX11_140 {b : Nat} {s : State} (hts : ∀ w ∈ lw_tbl, w.before #[Value.ref b] s = true) (hg : ∀ w ∈ flatC (Jvm.Cond.and given_1 narrow_1), w.before #[Value.ref b] s = true) : ∃ a : Nat, vk_R RX11 140 "look" a s := by
  obtain ⟨a, c9, cell9, k9, q1, -⟩ := Cond.exactly_spec (args := #[Value.ref b]) (first := s) (o := none) (s := s) (idx := []) (t := .string RX11 140) (cls := "java/lang/String") (hg _ sx_RX11_140)
  exact ⟨a, vk_R.of (hts _ st_RX11_140) q1⟩
set_option maxRecDepth 100000 in
theorem sx_RX11_142 : Cond.exactly (.string RX11 142) "java/lang/String" ∈ flatC (Jvm.Cond.and given_1 narrow_1) := by decide +kernel
set_option maxRecDepth 100000 in
theorem st_RX11_142 : Cond.stringRef RX11 142 "point" ∈ lw_tbl := by decide +kernel
theorem sr_RX11_142 {b : Nat} {s : State} (hts : ∀ w ∈ lw_tbl, w.before #[Value.ref b] s = true) (hg : ∀ w ∈ flatC (Jvm.Cond.and given_1 narrow_1), w.before #[Value.ref b] s = true) : ∃ a : Nat, vk_R RX11 142 "point" a s := by
  obtain ⟨a, c9, cell9, k9, q1, -⟩ := Cond.exactly_spec (args := #[Value.ref b]) (first := s) (o := none) (s := s) (idx := []) (t := .string RX11 142) (cls := "java/lang/String") (hg _ sx_RX11_142)
  exact ⟨a, vk_R.of (hts _ st_RX11_142) q1⟩
set_option maxRecDepth 100000 in
theorem sx_RX11_144 : Cond.exactly (.string RX11 144) "java/lang/String" ∈ flatC (Jvm.Cond.and given_1 narrow_1) := by decide +kernel
set_option maxRecDepth 100000 in
theorem st_RX11_144 : Cond.stringRef RX11 144 "set" ∈ lw_tbl := by decide +kernel
theorem sr_RX11_144 {b : Nat} {s : State} (hts : ∀ w ∈ lw_tbl, w.before #[Value.ref b] s = true) (hg : ∀ w ∈ flatC (Jvm.Cond.and given_1 narrow_1), w.before #[Value.ref b] s = true) : ∃ a : Nat, vk_R RX11 144 "set" a s := by
  obtain ⟨a, c9, cell9, k9, q1, -⟩ := Cond.exactly_spec (args := #[Value.ref b]) (first := s) (o := none) (s := s) (idx := []) (t := .string RX11 144) (cls := "java/lang/String") (hg _ sx_RX11_144)
  exact ⟨a, vk_R.of (hts _ st_RX11_144) q1⟩
set_option maxRecDepth 100000 in
theorem sx_RX11_146 : Cond.exactly (.string RX11 146) "java/lang/String" ∈ flatC (Jvm.Cond.and given_1 narrow_1) := by decide +kernel
set_option maxRecDepth 100000 in
theorem st_RX11_146 : Cond.stringRef RX11 146 "line" ∈ lw_tbl := by decide +kernel
theorem sr_RX11_146 {b : Nat} {s : State} (hts : ∀ w ∈ lw_tbl, w.before #[Value.ref b] s = true) (hg : ∀ w ∈ flatC (Jvm.Cond.and given_1 narrow_1), w.before #[Value.ref b] s = true) : ∃ a : Nat, vk_R RX11 146 "line" a s := by
  obtain ⟨a, c9, cell9, k9, q1, -⟩ := Cond.exactly_spec (args := #[Value.ref b]) (first := s) (o := none) (s := s) (idx := []) (t := .string RX11 146) (cls := "java/lang/String") (hg _ sx_RX11_146)
  exact ⟨a, vk_R.of (hts _ st_RX11_146) q1⟩
set_option maxRecDepth 100000 in
theorem sx_RX11_148 : Cond.exactly (.string RX11 148) "java/lang/String" ∈ flatC (Jvm.Cond.and given_1 narrow_1) := by decide +kernel
set_option maxRecDepth 100000 in
theorem st_RX11_148 : Cond.stringRef RX11 148 "ray" ∈ lw_tbl := by decide +kernel
theorem sr_RX11_148 {b : Nat} {s : State} (hts : ∀ w ∈ lw_tbl, w.before #[Value.ref b] s = true) (hg : ∀ w ∈ flatC (Jvm.Cond.and given_1 narrow_1), w.before #[Value.ref b] s = true) : ∃ a : Nat, vk_R RX11 148 "ray" a s := by
  obtain ⟨a, c9, cell9, k9, q1, -⟩ := Cond.exactly_spec (args := #[Value.ref b]) (first := s) (o := none) (s := s) (idx := []) (t := .string RX11 148) (cls := "java/lang/String") (hg _ sx_RX11_148)
  exact ⟨a, vk_R.of (hts _ st_RX11_148) q1⟩
set_option maxRecDepth 100000 in
theorem sx_RX11_150 : Cond.exactly (.string RX11 150) "java/lang/String" ∈ flatC (Jvm.Cond.and given_1 narrow_1) := by decide +kernel
set_option maxRecDepth 100000 in
theorem st_RX11_150 : Cond.stringRef RX11 150 "run" ∈ lw_tbl := by decide +kernel
theorem sr_RX11_150 {b : Nat} {s : State} (hts : ∀ w ∈ lw_tbl, w.before #[Value.ref b] s = true) (hg : ∀ w ∈ flatC (Jvm.Cond.and given_1 narrow_1), w.before #[Value.ref b] s = true) : ∃ a : Nat, vk_R RX11 150 "run" a s := by
  obtain ⟨a, c9, cell9, k9, q1, -⟩ := Cond.exactly_spec (args := #[Value.ref b]) (first := s) (o := none) (s := s) (idx := []) (t := .string RX11 150) (cls := "java/lang/String") (hg _ sx_RX11_150)
  exact ⟨a, vk_R.of (hts _ st_RX11_150) q1⟩
set_option maxRecDepth 100000 in
theorem sx_RX10_339 : Cond.exactly (.string RX10 339) "java/lang/String" ∈ flatC (Jvm.Cond.and given_1 narrow_1) := by decide +kernel
set_option maxRecDepth 100000 in
theorem st_RX10_339 : Cond.stringRef RX10 339 "no such outcome" ∈ lw_tbl := by decide +kernel
theorem sr_RX10_339 {b : Nat} {s : State} (hts : ∀ w ∈ lw_tbl, w.before #[Value.ref b] s = true) (hg : ∀ w ∈ flatC (Jvm.Cond.and given_1 narrow_1), w.before #[Value.ref b] s = true) : ∃ a : Nat, vk_R RX10 339 "no such outcome" a s := by
  obtain ⟨a, c9, cell9, k9, q1, -⟩ := Cond.exactly_spec (args := #[Value.ref b]) (first := s) (o := none) (s := s) (idx := []) (t := .string RX10 339) (cls := "java/lang/String") (hg _ sx_RX10_339)
  exact ⟨a, vk_R.of (hts _ st_RX10_339) q1⟩
set_option maxRecDepth 100000 in
theorem zi_UNASSIGNED_STACK : Cond.isRef (.static Bundle.tN "UNASSIGNED_STACK" Bundle.steD) ∈ flatC (Jvm.Cond.and given_1 narrow_1) := by decide +kernel
set_option maxRecDepth 100000 in
theorem zl_UNASSIGNED_STACK : Cond.laysStatic Bundle.tN "UNASSIGNED_STACK" Bundle.steD ∈ lw_tbl := by decide +kernel
set_option maxRecDepth 100000 in
theorem zi_SUPPRESSED_SENTINEL : Cond.isRef (.static Bundle.tN "SUPPRESSED_SENTINEL" Bundle.listD) ∈ flatC (Jvm.Cond.and given_1 narrow_1) := by decide +kernel
set_option maxRecDepth 100000 in
theorem zl_SUPPRESSED_SENTINEL : Cond.laysStatic Bundle.tN "SUPPRESSED_SENTINEL" Bundle.listD ∈ lw_tbl := by decide +kernel
set_option maxRecDepth 100000 in
theorem zt_ini : Cond.initialized Bundle.tN ∈ lw_tbl := by decide +kernel
set_option maxRecDepth 100000 in
theorem zt_d1 : Cond.declares (Bundle.initS "java/lang/RuntimeException") ∈ lw_tbl := by decide +kernel
set_option maxRecDepth 100000 in
theorem zt_d2 : Cond.declares (Bundle.initS "java/lang/Exception") ∈ lw_tbl := by decide +kernel
set_option maxRecDepth 100000 in
theorem zt_d3 : Cond.declares (Bundle.initS "java/lang/Throwable") ∈ lw_tbl := by decide +kernel
set_option maxRecDepth 100000 in
theorem zt_cast : Cond.castable "java/util/NoSuchElementException" "java/util/NoSuchElementException" ∈ lw_tbl := by decide +kernel
set_option maxRecDepth 100000 in
theorem zt_aoJ : Cond.arrayOver (.array .long) ∈ lw_tbl := by decide +kernel
set_option maxRecDepth 100000 in
theorem zt_aoI : Cond.arrayOver (.array .int) ∈ lw_tbl := by decide +kernel
set_option maxRecDepth 100000 in
theorem zn_RX6_11 : Cond.methodLinkNest RX6 11 yX1_init "NotAtOnce" ∈ lw_tbl := by decide +kernel
set_option maxRecDepth 100000 in
theorem zn_RX10_24 : Cond.methodLinkNest RX10 24 yX8_init "NotAtOnce" ∈ lw_tbl := by decide +kernel
set_option maxRecDepth 100000 in
theorem zn_RX10_40 : Cond.methodLinkNest RX10 40 yX2_init "NotAtOnce" ∈ lw_tbl := by decide +kernel
set_option maxRecDepth 100000 in
theorem zn_RX10_56 : Cond.methodLinkNest RX10 56 yX5_init "NotAtOnce" ∈ lw_tbl := by decide +kernel
set_option maxRecDepth 100000 in
theorem zn_RX10_63 : Cond.methodLinkNest RX10 63 yX3_init "NotAtOnce" ∈ lw_tbl := by decide +kernel
set_option maxRecDepth 100000 in
theorem zn_RX10_70 : Cond.methodLinkNest RX10 70 yX9_init "NotAtOnce" ∈ lw_tbl := by decide +kernel
set_option maxRecDepth 100000 in
theorem zc_0 : Cond.instantiable RX0 9 ∈ lw_tbl := by decide +kernel
set_option maxRecDepth 100000 in
theorem zc_1 : Cond.instantiable RX1 16 ∈ lw_tbl := by decide +kernel
set_option maxRecDepth 100000 in
theorem zc_2 : Cond.instantiable RX2 2 ∈ lw_tbl := by decide +kernel
set_option maxRecDepth 100000 in
theorem zc_3 : Cond.instantiable RX3 12 ∈ lw_tbl := by decide +kernel
set_option maxRecDepth 100000 in
theorem zc_4 : Cond.instantiable RX4 7 ∈ lw_tbl := by decide +kernel
set_option maxRecDepth 100000 in
theorem zc_5 : Cond.instantiable RX5 6 ∈ lw_tbl := by decide +kernel
set_option maxRecDepth 100000 in
theorem zc_6 : Cond.instantiable RX6 12 ∈ lw_tbl := by decide +kernel
set_option maxRecDepth 100000 in
theorem zc_7 : Cond.instantiable RX7 1 ∈ lw_tbl := by decide +kernel
set_option maxRecDepth 100000 in
theorem zc_8 : Cond.instantiable RX8 8 ∈ lw_tbl := by decide +kernel
set_option maxRecDepth 100000 in
theorem zc_9 : Cond.instantiable RX9 10 ∈ lw_tbl := by decide +kernel
set_option maxRecDepth 100000 in
theorem zc_10 : Cond.instantiable RX10 14 ∈ lw_tbl := by decide +kernel
set_option maxRecDepth 100000 in
theorem zc_11 : Cond.instantiable RX11 40 ∈ lw_tbl := by decide +kernel
