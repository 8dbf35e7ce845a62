def qNL : List Nat := [0, 50973131882355710037795927480339112013669529, 9093910608636098599412703966113295361836914077376583984544778910903775004625495868908753, 9093910608636098599412703966113295361836925495358125632223827377191530600586586930882193, 1622407866731265380690454928321438692753665820398855563555043418132650701742100896750796708368684491630291177004724856500901370213521, 9093910608636098599412703966113295361837747590029124265115316949909933509785143392969873, 289447235552524620431948093170421397252542611075673326112586955676188781280263355193084007023287308716597458731489795184224326270349747845194688844552600336063746446528091071633, 9093910608636098599412703966113295361890361648973036770170649603887719698492756966581393, 289447235552524620431948093170421397252565551922908906205069918708875246423378892006874399858630998260364651198745687253846124136756047441638372134857575738424910441827778765969, 1622407866731265380690454928321438692762023779009755959967002850792194380336895074990652626978022855949716554450114234511082100696209, 289447235552524620431948093170421397252562962559953603105522336742809645407225257693523710268268766050285496713669811924420432108699251428899052204248121486854778028699687658641, 9093910608636098599412703966113295580764846855649057800354490151478264722165223190504593, 9212725501110233788231371807277424081314333230322158737453976633896858281006201426688166044452622606493075780619230661184102978322645275630082650025600841917079800890819551837008766353571918899457470373983765951655606970878171689203527315695093246030790614254691473, 9093910608636098599412703966113309373224714648648783025477734504260917290817864008803473, 289447235552524620431948093170421397253865457553891330653386725006544949532789204438392741978778887309791618652168207815836281126884878784423527877841728702935816218095227839633, 289447235552524620431948093170421397336067646497465139743507775721542766347781420508073948741724422295248994940640035010438781539065731097151047845819871423216325198466354062481, 51639112387807405658497990257456052375421174028487860614685200857272295069055604463302124160937816406972714855752341627567243299508594935394482095160106532713214546915604844610816787978553852878407964156547725061408760977, 9093910608636098599412703966170686006274733527505719538174242080095602885803668132144273, 9212725501110233788231371807277424081360891054051005894395678421912980657812626805172195911080255776029117047825195534447666439345936616739855849642562085698033393676525392684731437264034689558202227247074207152985818746574143096608453965911891203427080034316788881, 9093910608636098599412703969786296605857461647475134245941857935770559763678340273742993, 9212725501110233788231371807277424084299216037174718030495532657247006626379303712053860134389838235830071179289691012454136518584618984001521527442913968743073140418167065032287276498859926326497427596852712097315274175558543926283069035586551662639016195211732113, 289447235552524620431948093170421739362135589587155116096815114766259010552412468797801963816970092468424702021051917072429227238855080945626374895854766614897413962467121898641, 289447235552524620431948093170421402672244632334837929769241902145410149148018001635115825601638662869409025360930114187668102593915666952853394593359423301087439242866404697233, 9093910608636098599412719010726390870006440720240318559223817543591171722314449324418193, 293228957591495354142655265264045093557592878455692066044597115661930839618342241736682505054824212948607288106602264524582631187507096695104715168333508338734778156637592393916441561782594726919815223758270944953894096047440932644631550833947994233059628687141415310889284518900397016915373567227813582868519167510910808500711296628651247251596146975889, 1622407866731265380690454965018536455142732408395736850239149167477325232304898382224980888965685977365246379925529942526822418293905, 289447235552524620431948093170421744113492323146488237131438910773127495668820154776148267060722428801222378146174816966007343353784861919924835909353147078927610818553631548561, 289447235552524620431948093272714854511442368688633915675082575033915737699146283525678420065776571595714624353926388866426475050250173312838101524568477426874392281361490191505, 9212725501110233788231371807277436310379192905257582328709004299454629290329076873980984012732277042989848196654061948694169485649332275073332493652559061559752991283369414504160984760049215210504089040655711707143188738303683548083943873579314958222746895528830097, 9093910608636098603356559021422188954656772938966092579134120125988250004539316778902673, 293228957591495354142655265264045093569465591758666903022659062532860927202376617611988437737284702012670129126366876771414434857255708855407195414770539907293829158004664527507088672002820651675348944175729318344545295589165536628987918838735838702732497634407113280876377885776981553823059436375913014181039272100236419004581389632464048393837760554129, 9093910608636098851819427505882485302307983980939008867374052872899975362759853666280593, 9212725501110233788231371807328296994162114129555103759223263193993786768222415617406226425435959654601493094533550439090009564824651464997067838102210241868299000217867981438097929943282361930794225270438034708701502014976340974307908738920117841119744772752876689, 289447235552524620431948098910065203546836540364948945318699397158380006287662111483498065539502509437113674250223915452542274065214821504111781761011597519640351175540292002961, 289447235552524620431948093171842139703886099611766863870997363197921850702586873380691006901442393294068905813463575179430994823462539068225942758340970864803066961432765080721, 289447235552524620431971557561563538772682917909954944041283244983561088369235161668673724348415017162482902118965817272041176676701211245988939913511387519130858019951177442449, 52313794144629437881620575873280458211032272548209670254195643884745016045068917269998632081691164229238195677628155146770384418952137941893115544122490203921123235376019389095687353361213106722735601276796723344657582432062339353744027594613708583268607101521112414141231083726814225879088858861417084965936451706280234783147263818667525554794993441350952442938660829326220367824484628959536424081, 9093910608702265507548313220641050210413305536438232314424286453009770924615109955888273, 289447235552524620431948093261348914138546228869940019654117417646073722794554097854386990987285482102083979036849219799203085007519468051169845254002037238669063241037983065233, 289447235552524620431971602751449284570039490102159108625369104097118498100688396243253412546176600757822095663835545197593360006001366891633272109182345496974096305425499104401, 293228957591495354142655265265663916267150372561460559100874393733111852964570003060827227686177879055675146403312696670191553683714129739204203163313824750504620443175532825181933210532042034067781509333704437950970343352908381481066077411195468600693821698361565256280099131509299676767423655999330746621252142214654887833429387597701892511760313296017, 9093910879655754322868210511797155130743009913090007063251024155400086919323067391485073, 293228957591495354142655265264045537325482455323981637931130052002756750107636625913088850901804675252357507472219956448862132938872726646047257484500000135180605585276866086655632421560489594796636176570895473684881411064051464570609158288258629460528979452170821804733634189607293432989996992496043171370500371710684374683509013338935928757734240494737, 9093927953894064900565122889880320571827150324869535850855910755257537908919892871554193, 9212725501110233788231372012447098939155274292899563638940043881506438756725507910642043201826384271729247522107817925122254655987739783244892066563561475889647808592942007791472383889417614838078277512486830929340324457347478271255771346157869271261833127537484945, 9212725501110233788232223646127571200916446153270473829009678574942963847524869094787267635100584272145806107194449349812624353375549349094331494199379028912984212138578448634395778414401130809345853280712478677584978890023283494194407203565250960291311299638928529, 289447235552524620431948465609530562324683942870444076303289669442250349999279568670541615240482397593327120359862704999904873204478903142981616086329852107893394915500331967633, 9164956785266068119720615715848555481851263327709292287184166162253654631713889959093393, 9333092748702114912981323887321177654473617833232466110593613522885901499865378926289745919440359453601447281817093731569091444409840677704243845754108805619931229196982162548330534093805355649209997699293798790109190800831773470649319068321511422853178825944687454752634886515533971514539822266731585691941713605959116669509949629536973203715624919456713735880484370025696477824896686847370399602462042032635347366375294345784997757038699665]
def qv (t i j : Nat) : Int := ((qNL.getD t 0 / 8 ^ (49 * i + j) % 8 : Nat) : Int) - 2
def ix (t : Nat) : Nat → Nat
  | 0 => 0
  | d + 1 => if t % (d + 1) = 0 then ix t d + 1 else ix t d
def hg (t : Nat) : Nat → Nat
  | 0 => t
  | d + 1 => if t % (d + 1) = 0 then hg t d - degF (d + 1) else hg t d
def cvI (c q : Nat → Int) (j : Nat) (i : Nat) : Int := if i ≤ j then c i * q (j - i) else 0
def ckQ (t : Nat) : Bool := allN (fun j => qv t 0 j == (if j = 0 then -1 else if j = t then 1 else 0)) 49 && decide (hg t (t - 1) = degF t) && allN (fun j => qv t (ix t (t - 1)) j == cycF t j) (degF t + 1) && allN (fun e => if t % (e + 1) = 0 then allN (fun j => qv t (ix t e) j == sumN (cvI (cycF (e + 1)) (qv t (ix t (e + 1))) j) (degF (e + 1) + 1)) 49 && decide (degF (e + 1) ≤ hg t e) && decide (1 ≤ degF (e + 1)) && (cycF (e + 1) (degF (e + 1)) == 1) && allN (fun i => qv t (ix t (e + 1)) (hg t (e + 1) + 1 + i) == 0) (48 - hg t (e + 1)) else true) (t - 1)
theorem ckQ_1 : allN (fun i => ckQ (1 + i)) 12 = true := by decide +kernel
theorem ckQ_13 : allN (fun i => ckQ (13 + i)) 11 = true := by decide +kernel
theorem ckQ_24 : allN (fun i => ckQ (24 + i)) 7 = true := by decide +kernel
theorem ckQ_31 : allN (fun i => ckQ (31 + i)) 6 = true := by decide +kernel
theorem ckQ_37 : allN (fun i => ckQ (37 + i)) 5 = true := by decide +kernel
theorem ckQ_42 : allN (fun i => ckQ (42 + i)) 4 = true := by decide +kernel
theorem ckQ_46 : allN (fun i => ckQ (46 + i)) 3 = true := by decide +kernel
theorem ckQ_all {t : Nat} (h1 : 1 ≤ t) (h2 : t ≤ 48) : ckQ t = true := by
  by_cases c1 : 1 ≤ t ∧ t < 13
  · have := allN_of ckQ_1 (t - 1) (by omega)
    rwa [show 1 + (t - 1) = t by omega] at this
  by_cases c13 : 13 ≤ t ∧ t < 24
  · have := allN_of ckQ_13 (t - 13) (by omega)
    rwa [show 13 + (t - 13) = t by omega] at this
  by_cases c24 : 24 ≤ t ∧ t < 31
  · have := allN_of ckQ_24 (t - 24) (by omega)
    rwa [show 24 + (t - 24) = t by omega] at this
  by_cases c31 : 31 ≤ t ∧ t < 37
  · have := allN_of ckQ_31 (t - 31) (by omega)
    rwa [show 31 + (t - 31) = t by omega] at this
  by_cases c37 : 37 ≤ t ∧ t < 42
  · have := allN_of ckQ_37 (t - 37) (by omega)
    rwa [show 37 + (t - 37) = t by omega] at this
  by_cases c42 : 42 ≤ t ∧ t < 46
  · have := allN_of ckQ_42 (t - 42) (by omega)
    rwa [show 42 + (t - 42) = t by omega] at this
  by_cases c46 : 46 ≤ t ∧ t < 49
  · have := allN_of ckQ_46 (t - 46) (by omega)
    rwa [show 46 + (t - 46) = t by omega] at this
  omega
theorem ck_facts {t : Nat} (h1 : 1 ≤ t) (h2 : t ≤ 48) : (∀ j, j < 49 → qv t 0 j = if j = 0 then -1 else if j = t then 1 else 0) ∧ hg t (t - 1) = degF t ∧ (∀ j, j ≤ degF t → qv t (ix t (t - 1)) j = cycF t j) ∧ ∀ e, e < t - 1 → t % (e + 1) = 0 → (∀ j, j < 49 → qv t (ix t e) j = sumN (cvI (cycF (e + 1)) (qv t (ix t (e + 1))) j) (degF (e + 1) + 1)) ∧ degF (e + 1) ≤ hg t e ∧ 1 ≤ degF (e + 1) ∧ cycF (e + 1) (degF (e + 1)) = 1 ∧ ∀ j, hg t (e + 1) < j → j < 49 → qv t (ix t (e + 1)) j = 0 := by
  have h := ckQ_all h1 h2
  unfold ckQ at h
  simp only [Bool.and_eq_true, decide_eq_true_eq] at h
  obtain ⟨⟨⟨a1, a2⟩, a3⟩, a4⟩ := h
  refine ⟨fun j hj => by simpa using allN_of a1 j hj, a2, fun j hj => by simpa using allN_of a3 j (by omega), fun e he hd => ?_⟩
  have h5 := allN_of a4 e he
  rw [if_pos hd] at h5
  simp only [Bool.and_eq_true, decide_eq_true_eq] at h5
  obtain ⟨⟨⟨⟨b1, b2⟩, b3⟩, b4⟩, b5⟩ := h5
  refine ⟨fun j hj => by simpa using allN_of b1 j hj, b2, b3, by simpa using b4, fun j hj hj2 => ?_⟩
  have h6 := allN_of b5 (j - (hg t (e + 1) + 1)) (by omega)
  rw [show hg t (e + 1) + 1 + (j - (hg t (e + 1) + 1)) = j by omega] at h6
  simpa using h6
/-- the row under division, when the places from k on are through -/
def dvT (c q : Nat → Int) (low k j i : Nat) : Int := if i ≤ j ∧ j + low < k + i then c i * q (j - i) else 0
def dvA (c q : Nat → Int) (low k j : Nat) : Int := if k ≤ j then q (j - low) else sumN (dvT c q low k j) (low + 1)
theorem dvA_first {c q : Nat → Int} {low high j : Nat} (hq : ∀ x, high - low < x → x < 49 → q x = 0) (hl : low ≤ high) (hj : j < 49) : sumN (cvI c q j) (low + 1) = dvA c q low (high + 1) j := by
  unfold dvA
  by_cases h : high + 1 ≤ j
  · rw [if_pos h, hq _ (by omega) (by omega)]
    refine sumN_zero (fun i hi => ?_)
    unfold cvI
    rw [if_pos (by omega), hq _ (by omega) (by omega), Int.mul_zero]
  · rw [if_neg h]
    refine sumN_congr (fun i hi => ?_)
    unfold cvI dvT
    by_cases h1 : i ≤ j
    · rw [if_pos h1]
      by_cases h2 : j + low < high + 1 + i
      · rw [if_pos ⟨h1, h2⟩]
      · rw [if_neg (by omega), hq _ (by omega) (by omega), Int.mul_zero]
    · rw [if_neg h1, if_neg (by omega)]
theorem dvA_top {c q : Nat → Int} {low k : Nat} (hc : c low = 1) (hk : low ≤ k) : dvA c q low (k + 1) k = q (k - low) := by
  unfold dvA
  rw [if_neg (by omega), sumN_one low (by omega) (fun i hi hne => by unfold dvT; rw [if_neg (by omega)])]
  unfold dvT
  rw [if_pos (by omega), hc, Int.one_mul]
theorem sumN_sub1 {f g : Nat → Int} {n i0 : Nat} {x : Int} (h0 : i0 < n) (h1 : f i0 = g i0 + x) (h2 : ∀ i, i < n → i ≠ i0 → f i = g i) : sumN f n = sumN g n + x := by
  have e : sumN f n = sumN (fun i => g i + (f i - g i)) n := sumN_congr (fun i hi => by omega)
  rw [e, sumN_add, sumN_one (f := fun i => f i - g i) i0 h0 (fun i hi hne => by rw [h2 i hi hne]; omega)]
  omega
theorem dvA_step {c q : Nat → Int} {low k j : Nat} (hc : c low = 1) (hk : low ≤ k) : dvA c q low k j = if j = k then q (k - low) else if k - low ≤ j ∧ j < k then dvA c q low (k + 1) j - q (k - low) * c (j - (k - low)) else dvA c q low (k + 1) j := by
  by_cases e : j = k
  · rw [if_pos e, e]
    unfold dvA
    rw [if_pos (Nat.le_refl _)]
  · rw [if_neg e]
    by_cases e2 : k - low ≤ j ∧ j < k
    · rw [if_pos e2]
      unfold dvA
      rw [if_neg (by omega), if_neg (by omega)]
      have h3 := sumN_sub1 (f := dvT c q low (k + 1) j) (g := dvT c q low k j) (n := low + 1) (i0 := j - (k - low)) (x := c (j - (k - low)) * q (k - low)) (by omega) (by
        unfold dvT
        rw [if_pos (by omega), if_neg (by omega), show j - (j - (k - low)) = k - low by omega]
        omega) (fun i hi hne => by
        unfold dvT
        by_cases h1 : i ≤ j ∧ j + low < k + i
        · rw [if_pos h1, if_pos (by omega)]
        · rw [if_neg h1, if_neg (by omega)])
      rw [h3, Int.mul_comm (q _)]
      omega
    · rw [if_neg e2]
      unfold dvA
      by_cases h4 : k ≤ j
      · rw [if_pos h4, if_pos (by omega)]
      · rw [if_neg h4, if_neg (by omega)]
        refine sumN_congr (fun i hi => ?_)
        unfold dvT
        by_cases h5 : i ≤ j
        · rw [if_pos (by omega), if_pos (by omega)]
        · rw [if_neg (by omega), if_neg (by omega)]
theorem dvA_low {c q : Nat → Int} {low j : Nat} (h : low ≤ j) : dvA c q low low j = q (j - low) := by
  unfold dvA
  rw [if_pos h]
def redG (m : Nat → Nat → Int) (lo : Nat) (by_ : Int) (c : Nat → Int) (i : Nat) : Nat → Nat → Int := fun a j => if a = 73 ∧ lo ≤ j ∧ j < lo + i then m 73 j - by_ * c (j - lo) else m a j
theorem redG_0 (m : Nat → Nat → Int) (lo : Nat) (by_ : Int) (c : Nat → Int) : redG m lo by_ c 0 = m := by
  funext a j
  unfold redG
  rw [if_neg (by omega)]
theorem redG_step (m : Nat → Nat → Int) (lo : Nat) (by_ : Int) (c : Nat → Int) (i : Nat) : upm (redG m lo by_ c i) 73 (lo + i) (m 73 (lo + i) - by_ * c i) = redG m lo by_ c (i + 1) := by
  funext a j
  unfold upm redG
  by_cases h : a = 73 ∧ j = lo + i
  · rw [if_pos h, if_pos (by omega), h.2, show lo + i - lo = i by omega]
  · rw [if_neg h]
    by_cases h2 : a = 73 ∧ lo ≤ j ∧ j < lo + i
    · rw [if_pos h2, if_pos (by omega)]
    · rw [if_neg h2, if_neg (by omega)]
theorem redG_off (m : Nat → Nat → Int) {lo i a : Nat} {by_ : Int} {c : Nat → Int} (h : a ≠ 73) : redG m lo by_ c i a = m a := by
  funext j
  unfold redG
  rw [if_neg (by omega)]
theorem sp_MdividesBy {w : List KD} {m : Nat → Nat → Int} (c q : Nat → Int) (d high low : Nat) (hd : d < 49) (hh : high < 49) (hl : 1 ≤ low ∧ low ≤ high) (h75 : m 75 d = (low : Int)) (h74 : ∀ i, i ≤ low → m 74 (49 * d + i) = c i) (hc : c low = 1) (h73 : ∀ j, j < 49 → m 73 j = sumN (cvI c q j) (low + 1)) (hq : ∀ x, high - low < x → x < 49 → q x = 0) : Sp M_X10_dividesBy 0 0 0 [rV 64, iV (d : Int), iV (high : Int)] (WC ++ (WM ++ w), m) (fun r h => r = some (iV ((high - low : Nat) : Int)) ∧ ∃ m2, h = (WC ++ (WM ++ w), m2) ∧ (∀ a, a ≠ 73 → m2 a = m a) ∧ ∀ j, j < 49 → m2 73 j = q j) := by
  refine Sp.ofG (ls := [rV 64, iV (d : Int), iV (high : Int), uV, uV, uV, uV, uV]) (by decide +kernel) rfl (Nat.le_of_ble_eq_true rfl) ?_
  have LZ : ∀ k : Nat, k ≤ high + 1 → ∀ m1, high - low + 1 ≤ k → (∀ a, a ≠ 73 → m1 a = m a) → (∀ j, j < 49 → (j < k ∨ high < j) → m1 73 j = q j) → G M_X10_dividesBy 0 0 0 135 [rV 64, iV (d : Int), iV (high : Int), iV (low : Int), iV (k : Int), uV, uV, uV] [] (WC ++ (WM ++ w), m1) (fun r h => r = some (iV ((high - low : Nat) : Int)) ∧ ∃ m2, h = (WC ++ (WM ++ w), m2) ∧ (∀ a, a ≠ 73 → m2 a = m a) ∧ ∀ j, j < 49 → m2 73 j = q j) := by
    refine loop_up (high + 1) _ ?_
    intro k hk ih m1 hk1 hm hz
    refine G_iload d_X10_dividesBy_135 rfl ?_
    refine G_iload_n d_X10_dividesBy_137 rfl ?_
    refine G_icmp_gt 155 d_X10_dividesBy_138 (by decide) (by omega) (by omega) (fun c138 => ?_) (fun c138 => ?_)
    · refine G_iload_n d_X10_dividesBy_155 rfl ?_
      refine G_iload_n d_X10_dividesBy_156 rfl ?_
      refine G_isub d_X10_dividesBy_157 ?_
      refine G_iret (mc := 0) (ms := 0) (st := []) d_X10_dividesBy_158 rfl ?_
      rw [show (high : Int) - (low : Int) = ((high - low : Nat) : Int) by omega]
      exact ⟨rfl, m1, rfl, hm, fun j hj => hz j hj (by omega)⟩
    · refine G_aload_n d_X10_dividesBy_141 rfl ?_
      refine G_getR (r := 73) (fl_X10_64.r) d_X10_dividesBy_142 (wk_64 _) rfl rfl ?_
      refine G_iload d_X10_dividesBy_145 rfl ?_
      refine G_lconst d_X10_dividesBy_147 ?_
      refine G_lastj (k) d_X10_dividesBy_148 (wk_73 _) (by omega) (by omega) (by decide) ?_
      refine G_iinc d_X10_dividesBy_149 rfl (by decide) rfl ?_
      refine G_goto 135 d_X10_dividesBy_152 (by decide) ?_
      exact ih (by omega) _ (by omega) (fun a ha => by rw [upm_off _ _ ha]; exact hm a ha) (fun j hj hj2 => by
        by_cases e : j = k
        · rw [e, upm_same, hq k (by omega) (by omega)]; rfl
        · rw [upm_ne _ _ (fun _ => e)]; exact hz j hj (by omega))
  have LS : ∀ k : Nat, k ≤ high - low + 1 → ∀ m1, (∀ a, a ≠ 73 → m1 a = m a) → (∀ j, j < 49 → (j < k ∨ high < j) → m1 73 j = q j) → (∀ j, j < 49 → k ≤ j → low ≤ j → m1 73 j = q (j - low)) → G M_X10_dividesBy 0 0 0 98 [rV 64, iV (d : Int), iV (high : Int), iV (low : Int), iV (k : Int), uV, uV, uV] [] (WC ++ (WM ++ w), m1) (fun r h => r = some (iV ((high - low : Nat) : Int)) ∧ ∃ m2, h = (WC ++ (WM ++ w), m2) ∧ (∀ a, a ≠ 73 → m2 a = m a) ∧ ∀ j, j < 49 → m2 73 j = q j) := by
    refine loop_up (high - low + 1) _ ?_
    intro k hk ih m1 hm hz hy
    refine G_iload d_X10_dividesBy_98 rfl ?_
    refine G_iload_n d_X10_dividesBy_100 rfl ?_
    refine G_iload_n d_X10_dividesBy_101 rfl ?_
    refine G_isub d_X10_dividesBy_102 ?_
    refine G_icmp_gt 128 d_X10_dividesBy_103 (by decide) (by omega) (by omega) (fun c103 => ?_) (fun c103 => ?_)
    · refine G_iload_n d_X10_dividesBy_128 rfl ?_
      refine G_iload_n d_X10_dividesBy_129 rfl ?_
      refine G_isub d_X10_dividesBy_130 ?_
      refine G_iconst d_X10_dividesBy_131 ?_
      refine G_iadd d_X10_dividesBy_132 ?_
      refine G_istore d_X10_dividesBy_133 (by decide) rfl ?_
      rw [show (high : Int) - (low : Int) + 1 = ((high - low + 1 : Nat) : Int) by omega]
      exact LZ (high - low + 1) (by omega) m1 (Nat.le_refl _) hm (fun j hj hj2 => hz j hj (by omega))
    · refine G_aload_n d_X10_dividesBy_106 rfl ?_
      refine G_getR (r := 73) (fl_X10_64.r) d_X10_dividesBy_107 (wk_64 _) rfl rfl ?_
      refine G_iload d_X10_dividesBy_110 rfl ?_
      refine G_aload_n d_X10_dividesBy_112 rfl ?_
      refine G_getR (r := 73) (fl_X10_64.r) d_X10_dividesBy_113 (wk_64 _) rfl rfl ?_
      refine G_iload d_X10_dividesBy_116 rfl ?_
      refine G_iload_n d_X10_dividesBy_118 rfl ?_
      refine G_iadd d_X10_dividesBy_119 ?_
      refine G_laldj (k + low) d_X10_dividesBy_120 (wk_73 _) (by omega) (by omega) (by decide) ?_
      refine G_lastj (k) d_X10_dividesBy_121 (wk_73 _) (by omega) (by omega) (by decide) ?_
      refine G_iinc d_X10_dividesBy_122 rfl (by decide) rfl ?_
      refine G_goto 98 d_X10_dividesBy_125 (by decide) ?_
      exact ih (by omega) _ (fun a ha => by rw [upm_off _ _ ha]; exact hm a ha) (fun j hj hj2 => by
        by_cases e : j = k
        · rw [e, upm_same, hy (k + low) (by omega) (by omega) (by omega), show k + low - low = k by omega]
        · rw [upm_ne _ _ (fun _ => e)]; exact hz j hj (by omega)) (fun j hj hj2 hj3 => by rw [upm_ne _ _ (fun _ => by omega)]; exact hy j hj (by omega) hj3)
  have LI : ∀ k, low ≤ k → k ≤ high → (∀ m1, (∀ a, a ≠ 73 → m1 a = m a) → (∀ j, j < 49 → m1 73 j = dvA c q low k j) → G M_X10_dividesBy 0 0 0 10 [rV 64, iV (d : Int), iV (high : Int), iV (low : Int), iV ((k : Int) - 1), uV, uV, uV] [] (WC ++ (WM ++ w), m1) (fun r h => r = some (iV ((high - low : Nat) : Int)) ∧ ∃ m2, h = (WC ++ (WM ++ w), m2) ∧ (∀ a, a ≠ 73 → m2 a = m a) ∧ ∀ j, j < 49 → m2 73 j = q j)) → ∀ m1, (∀ a, a ≠ 73 → m1 a = m a) → (∀ j, j < 49 → m1 73 j = dvA c q low (k + 1) j) → ∀ i, i ≤ low + 1 → G M_X10_dividesBy 0 0 0 28 [rV 64, iV (d : Int), iV (high : Int), iV (low : Int), iV (k : Int), lV (q (k - low)), uV, iV (i : Int)] [] (WC ++ (WM ++ w), redG m1 (k - low) (q (k - low)) c i) (fun r h => r = some (iV ((high - low : Nat) : Int)) ∧ ∃ m2, h = (WC ++ (WM ++ w), m2) ∧ (∀ a, a ≠ 73 → m2 a = m a) ∧ ∀ j, j < 49 → m2 73 j = q j) := by
    intro k hk1 hk2 hnext m1 hm hA
    refine loop_up (low + 1) _ ?_
    intro i hi ih
    refine G_iload d_X10_dividesBy_28 rfl ?_
    refine G_iload_n d_X10_dividesBy_30 rfl ?_
    refine G_icmp_gt 80 d_X10_dividesBy_31 (by decide) (by omega) (by omega) (fun c31 => ?_) (fun c31 => ?_)
    · refine G_aload_n d_X10_dividesBy_80 rfl ?_
      refine G_getR (r := 73) (fl_X10_64.r) d_X10_dividesBy_81 (wk_64 _) rfl rfl ?_
      refine G_iload d_X10_dividesBy_84 rfl ?_
      refine G_lload d_X10_dividesBy_86 rfl ?_
      refine G_lastj (k) d_X10_dividesBy_88 (wk_73 _) (by omega) (by omega) (by decide) ?_
      refine G_iinc d_X10_dividesBy_89 rfl (by decide) rfl ?_
      refine G_goto 10 d_X10_dividesBy_92 (by decide) ?_
      have hie : i = low + 1 := by omega
      subst hie
      refine G.fg (hnext _ (fun a ha => by rw [upm_off _ _ ha, redG_off _ ha]; exact hm a ha) (fun j hj => ?_)) ?_
      · rw [dvA_step hc hk1]
        by_cases e : j = k
        · rw [if_pos e, e, upm_same]
        · rw [if_neg e, upm_ne _ _ (fun _ => e)]
          unfold redG
          by_cases e2 : k - low ≤ j ∧ j < k
          · rw [if_pos e2, if_pos (by omega), hA j hj]
          · rw [if_neg e2, if_neg (by omega)]
            exact hA j hj
      · repeat (first | exact trivial | refine wkL_cons (Or.inl rfl) ?_ | refine wkL_cons (Or.inr rfl) ?_)
    · refine G_aload_n d_X10_dividesBy_34 rfl ?_
      refine G_getR (r := 73) (fl_X10_64.r) d_X10_dividesBy_35 (wk_64 _) rfl rfl ?_
      refine G_iload d_X10_dividesBy_38 rfl ?_
      refine G_iload_n d_X10_dividesBy_40 rfl ?_
      refine G_isub d_X10_dividesBy_41 ?_
      refine G_iload d_X10_dividesBy_42 rfl ?_
      refine G_iadd d_X10_dividesBy_44 ?_
      refine G_aload_n d_X10_dividesBy_45 rfl ?_
      refine G_getR (r := 73) (fl_X10_64.r) d_X10_dividesBy_46 (wk_64 _) rfl rfl ?_
      refine G_iload d_X10_dividesBy_49 rfl ?_
      refine G_iload_n d_X10_dividesBy_51 rfl ?_
      refine G_isub d_X10_dividesBy_52 ?_
      refine G_iload d_X10_dividesBy_53 rfl ?_
      refine G_iadd d_X10_dividesBy_55 ?_
      refine G_laldj (k - low + i) d_X10_dividesBy_56 (wk_73 _) (by omega) (by omega) (by decide) ?_
      rw [show redG m1 (k - low) (q (k - low)) c i 73 (k - low + i) = m1 73 (k - low + i) by unfold redG; rw [if_neg (by omega)]]
      refine G_lload d_X10_dividesBy_57 rfl ?_
      refine G_aload_n d_X10_dividesBy_59 rfl ?_
      refine G_getR (r := 74) (fl_X10_67.r) d_X10_dividesBy_60 (wk_64 _) rfl rfl ?_
      refine G_bipush d_X10_dividesBy_63 (by decide) ?_
      refine G_iload_n d_X10_dividesBy_65 rfl ?_
      refine G_imul d_X10_dividesBy_66 ?_
      refine G_iload d_X10_dividesBy_67 rfl ?_
      refine G_iadd d_X10_dividesBy_69 ?_
      refine G_laldj (49 * d + i) d_X10_dividesBy_70 (wk_74 _) (by omega) (by omega) (by decide) ?_
      rw [show redG m1 (k - low) (q (k - low)) c i 74 (49 * d + i) = c i by rw [redG_off _ (by decide), hm 74 (by decide)]; exact h74 i (by omega)]
      refine G_lmul d_X10_dividesBy_71 ?_
      refine G_lsub d_X10_dividesBy_72 ?_
      refine G_lastj (k - low + i) d_X10_dividesBy_73 (wk_73 _) (by omega) (by omega) (by decide) ?_
      refine G_iinc d_X10_dividesBy_74 rfl (by decide) rfl ?_
      refine G_goto 28 d_X10_dividesBy_77 (by decide) ?_
      rw [redG_step]
      exact ih (by omega)
  have LK : ∀ x : Nat, low + x ≤ high + 1 → ∀ m1, (∀ a, a ≠ 73 → m1 a = m a) → (∀ j, j < 49 → m1 73 j = dvA c q low (low + x) j) → G M_X10_dividesBy 0 0 0 10 [rV 64, iV (d : Int), iV (high : Int), iV (low : Int), iV (((low + x : Nat) : Int) - 1), uV, uV, uV] [] (WC ++ (WM ++ w), m1) (fun r h => r = some (iV ((high - low : Nat) : Int)) ∧ ∃ m2, h = (WC ++ (WM ++ w), m2) ∧ (∀ a, a ≠ 73 → m2 a = m a) ∧ ∀ j, j < 49 → m2 73 j = q j) := by
    refine loop_down _ ?_
    intro x ih hx m1 hm hA
    have hdr : ((low + x : Nat) : Int) = (low : Int) + x := by omega
    rw [hdr]
    refine G_iload d_X10_dividesBy_10 rfl ?_
    refine G_iload_n d_X10_dividesBy_12 rfl ?_
    refine G_icmp_lt 95 d_X10_dividesBy_13 (by decide) (by omega) (by omega) (fun c13 => ?_) (fun c13 => ?_)
    · have hx0 : x = 0 := by omega
      subst hx0
      refine G_iconst d_X10_dividesBy_95 ?_
      refine G_istore d_X10_dividesBy_96 (by decide) rfl ?_
      exact G.fg (LS 0 (by omega) m1 hm (fun j hj h1 => by rw [hA j hj]; rw [Nat.add_zero, dvA_low (by omega), hq _ (by omega) (by omega), hq _ (by omega) hj]) (fun j hj _ h1 => by rw [hA j hj, Nat.add_zero]; exact dvA_low h1)) (by
        repeat (first | exact trivial | refine wkL_cons (Or.inl rfl) ?_ | refine wkL_cons (Or.inr rfl) ?_))
    · obtain ⟨y, rfl⟩ : ∃ y, x = y + 1 := ⟨x - 1, by omega⟩
      rw [show (low : Int) + ((y + 1 : Nat) : Int) - 1 = ((low + y : Nat) : Int) by omega]
      have hnext := ih y rfl (by omega)
      have htop : m1 73 (low + y) = q (low + y - low) := by rw [hA (low + y) (by omega)]; exact dvA_top (k := low + y) hc (by omega)
      refine G_aload_n d_X10_dividesBy_16 rfl ?_
      refine G_getR (r := 73) (fl_X10_64.r) d_X10_dividesBy_17 (wk_64 _) rfl rfl ?_
      refine G_iload d_X10_dividesBy_20 rfl ?_
      refine G_laldj (low + y) d_X10_dividesBy_22 (wk_73 _) (by omega) (by omega) (by decide) ?_
      rw [htop]
      refine G_lstore d_X10_dividesBy_23 (by decide) rfl ?_
      refine G_iconst d_X10_dividesBy_25 ?_
      refine G_istore d_X10_dividesBy_26 (by decide) rfl ?_
      have h3 := LI (low + y) (by omega) (by omega) hnext m1 hm hA 0 (by omega)
      rw [redG_0] at h3
      exact h3
  refine G_aload_n d_X10_dividesBy_0 rfl ?_
  refine G_getR (r := 75) (fl_X10_70.r) d_X10_dividesBy_1 (wk_64 _) rfl rfl ?_
  refine G_iload_n d_X10_dividesBy_4 rfl ?_
  refine G_ialdj (d) d_X10_dividesBy_5 (wk_75 _) (by omega) (by omega) (by decide) ?_
  rw [h75]
  refine G_istore_n d_X10_dividesBy_6 (by decide) rfl ?_
  refine G_iload_n d_X10_dividesBy_7 rfl ?_
  refine G_istore d_X10_dividesBy_8 (by decide) rfl ?_
  have h3 := LK (high + 1 - low) (by omega) m (fun _ _ => rfl) (fun j hj => by rw [h73 j hj, show low + (high + 1 - low) = high + 1 by omega]; exact dvA_first hq hl.2 hj)
  rw [show ((low + (high + 1 - low) : Nat) : Int) - 1 = (high : Int) by omega] at h3
  exact h3
def PT (T t : Nat) (m : Nat → Nat → Int) : Prop := ∀ d, 1 ≤ d → d < t → T % d = 0 → m 75 d = (degF d : Int) ∧ ∀ j, j ≤ degF d → m 74 (49 * d + j) = cycF d j
theorem degF_lt {d : Nat} (h1 : 1 ≤ d) (h2 : d ≤ 48) : 1 ≤ degF d ∧ degF d ≤ d := by
  by_cases e : d = 1
  · subst e; exact ⟨by decide, by decide⟩
  · have := c3_facts (T := d) (by omega) h2
    omega
theorem hg_le (t : Nat) : ∀ d, hg t d ≤ t
  | 0 => Nat.le_refl _
  | d + 1 => by
    have := hg_le t d
    unfold hg
    by_cases h : t % (d + 1) = 0
    · rw [if_pos h]; omega
    · rw [if_neg h]; exact this
theorem sp_MlaysPrimitive {w : List KD} {m : Nat → Nat → Int} (s : Nat → Int) (hV : VS s) (hO : MO s m) : Sp M_X10_laysPrimitive 1 0 0 [rV 64] (WC ++ (WM ++ w), m) (fun r h => r = none ∧ ∃ m2, h = (WC ++ (WM ++ w), m2) ∧ (∀ a, a ≠ 64 → a ≠ 72 → a ≠ 73 → a ≠ 74 → a ≠ 75 → m2 a = m a) ∧ (∀ j, j ≠ 16 → m2 64 j = m 64 j) ∧ PRI (pT s) m2) := by
  refine Sp.ofG (ls := [rV 64, uV, uV, uV]) (by decide +kernel) rfl (Nat.le_of_ble_eq_true rfl) ?_
  have hT := hV.T
  obtain ⟨gd1, gd2, -, -, -, -, -, -⟩ := c3_facts hT.1 hT.2.1
  have LA : ∀ k : Nat, k ≤ degF (pT s) + 1 → ∀ m2, (∀ a, a ≠ 64 → a ≠ 72 → a ≠ 73 → a ≠ 74 → a ≠ 75 → m2 a = m a) → (∀ j, j ≠ 16 → m2 64 j = m 64 j) → m2 64 16 = (degF (pT s) : Int) → (∀ j, j ≤ degF (pT s) → m2 74 (49 * pT s + j) = cycF (pT s) j) → (∀ j, j < k → m2 72 j = cycF (pT s) j) → G M_X10_laysPrimitive 1 0 0 145 [rV 64, iV (k : Int), uV, uV] [] (WC ++ (WM ++ w), m2) (fun r h => r = none ∧ ∃ m2, h = (WC ++ (WM ++ w), m2) ∧ (∀ a, a ≠ 64 → a ≠ 72 → a ≠ 73 → a ≠ 74 → a ≠ 75 → m2 a = m a) ∧ (∀ j, j ≠ 16 → m2 64 j = m 64 j) ∧ PRI (pT s) m2) := by
    refine loop_up (degF (pT s) + 1) _ ?_
    intro k hk ih m2 hm hm4 hd ht hz
    refine G_iload_n d_X10_laysPrimitive_145 rfl ?_
    refine G_aload_n d_X10_laysPrimitive_146 rfl ?_
    refine G_getIe (fl_X10_224.r) d_X10_laysPrimitive_147 (wk_64 _) rfl (hd) ?_
    refine G_icmp_gt 179 d_X10_laysPrimitive_150 (by decide) (by omega) (by omega) (fun c150 => ?_) (fun c150 => ?_)
    · refine G_vret (mc := 0) (ms := 0) (st := []) d_X10_laysPrimitive_179 rfl ?_
      exact ⟨rfl, m2, rfl, hm, hm4, hd, fun j hj => hz j (by omega)⟩
    · refine G_aload_n d_X10_laysPrimitive_153 rfl ?_
      refine G_getR (r := 72) (fl_X10_60.r) d_X10_laysPrimitive_154 (wk_64 _) rfl rfl ?_
      refine G_iload_n d_X10_laysPrimitive_157 rfl ?_
      refine G_aload_n d_X10_laysPrimitive_158 rfl ?_
      refine G_getR (r := 74) (fl_X10_67.r) d_X10_laysPrimitive_159 (wk_64 _) rfl rfl ?_
      refine G_bipush d_X10_laysPrimitive_162 (by decide) ?_
      refine G_aload_n d_X10_laysPrimitive_164 rfl ?_
      refine G_callV0 cl_X10_148 rfl d_X10_laysPrimitive_165 (wk_64 _) (Nat.le_of_ble_eq_true rfl) (by decide) (sp_Mt s hV (fun j hj => (congrFun (hm 65 (by decide) (by decide) (by decide) (by decide) (by decide)) j).trans (hO j hj))) ?_
      rintro _ _ ⟨rfl, rfl⟩
      refine G_imul d_X10_laysPrimitive_168 ?_
      refine G_iload_n d_X10_laysPrimitive_169 rfl ?_
      refine G_iadd d_X10_laysPrimitive_170 ?_
      refine G_laldj (49 * pT s + k) d_X10_laysPrimitive_171 (wk_74 _) (by omega) (by omega) (by decide) ?_
      rw [ht k (by omega)]
      refine G_lastj (k) d_X10_laysPrimitive_172 (wk_72 _) (by omega) (by omega) (by decide) ?_
      refine G_iinc d_X10_laysPrimitive_173 rfl (by decide) rfl ?_
      refine G_goto 145 d_X10_laysPrimitive_176 (by decide) ?_
      exact ih (by omega) _ (fun a h1 h2 h3 h4 h5 => by rw [upm_off _ _ h2]; exact hm a h1 h2 h3 h4 h5) (fun j hj => by rw [upm_off _ _ (by decide)]; exact hm4 j hj) (by rw [upm_off _ _ (by decide)]; exact hd) (fun j hj => by rw [upm_off _ _ (by decide)]; exact ht j hj) (fun j hj => by
        by_cases e : j = k
        · rw [e, upm_same]
        · rw [upm_ne _ _ (fun _ => e)]; exact hz j (by omega))
  have LT : ∀ t : Nat, t ≤ pT s + 1 → 1 ≤ t → ∀ m1, (∀ a, a ≠ 73 → a ≠ 74 → a ≠ 75 → m1 a = m a) → PT (pT s) t m1 → G M_X10_laysPrimitive 1 0 0 2 [rV 64, iV (t : Int), uV, uV] [] (WC ++ (WM ++ w), m1) (fun r h => r = none ∧ ∃ m2, h = (WC ++ (WM ++ w), m2) ∧ (∀ a, a ≠ 64 → a ≠ 72 → a ≠ 73 → a ≠ 74 → a ≠ 75 → m2 a = m a) ∧ (∀ j, j ≠ 16 → m2 64 j = m 64 j) ∧ PRI (pT s) m2) := by
    refine loop_up (pT s + 1) _ ?_
    intro t ht ih0 ht1
    have ih_t : t < pT s + 1 → ∀ m1, (∀ a, a ≠ 73 → a ≠ 74 → a ≠ 75 → m1 a = m a) → PT (pT s) (t + 1) m1 → G M_X10_laysPrimitive 1 0 0 2 [rV 64, iV ((t : Int) + 1), uV, uV] [] (WC ++ (WM ++ w), m1) (fun r h => r = none ∧ ∃ m2, h = (WC ++ (WM ++ w), m2) ∧ (∀ a, a ≠ 64 → a ≠ 72 → a ≠ 73 → a ≠ 74 → a ≠ 75 → m2 a = m a) ∧ (∀ j, j ≠ 16 → m2 64 j = m 64 j) ∧ PRI (pT s) m2) := fun h1 m1 h2 h3 => ih0 h1 (by omega) m1 h2 h3
    by_cases htT : t ≤ pT s
    · by_cases hyes : pT s % t = 0
      · have hdt := degF_lt ht1 (show t ≤ 48 by omega)
        obtain ⟨f1, f2, f3, f4⟩ := ck_facts ht1 (show t ≤ 48 by omega)
        have C96 : ∀ k : Nat, k ≤ degF t + 1 → ∀ m1, (∀ a, a ≠ 73 → a ≠ 74 → a ≠ 75 → m1 a = m a) → PT (pT s) t m1 → m1 75 t = (degF t : Int) → (∀ j, j ≤ degF t → m1 73 j = cycF t j) → (∀ j, j < k → m1 74 (49 * t + j) = cycF t j) → G M_X10_laysPrimitive 1 0 0 96 [rV 64, iV (t : Int), iV (degF t : Int), iV (k : Int)] [] (WC ++ (WM ++ w), m1) (fun r h => r = none ∧ ∃ m2, h = (WC ++ (WM ++ w), m2) ∧ (∀ a, a ≠ 64 → a ≠ 72 → a ≠ 73 → a ≠ 74 → a ≠ 75 → m2 a = m a) ∧ (∀ j, j ≠ 16 → m2 64 j = m 64 j) ∧ PRI (pT s) m2) := by
          refine loop_up (degF t + 1) _ ?_
          intro k hk ih m1 hm hPT h75 h73 hz
          refine G_iload_n d_X10_laysPrimitive_96 rfl ?_
          refine G_iload_n d_X10_laysPrimitive_97 rfl ?_
          refine G_icmp_gt 124 d_X10_laysPrimitive_98 (by decide) (by omega) (by omega) (fun c98 => ?_) (fun c98 => ?_)
          · refine G_iinc d_X10_laysPrimitive_124 rfl (by decide) rfl ?_
            refine G_goto 2 d_X10_laysPrimitive_127 (by decide) ?_
            refine G.fg (ih_t (by omega) m1 hm (fun d h1 h2 h3 => ?_)) ?_
            · by_cases e : d = t
              · subst e; exact ⟨h75, fun j hj => hz j (by omega)⟩
              · exact hPT d h1 (by omega) h3
            · repeat (first | exact trivial | refine wkL_cons (Or.inl rfl) ?_ | refine wkL_cons (Or.inr rfl) ?_)
          · refine G_aload_n d_X10_laysPrimitive_101 rfl ?_
            refine G_getR (r := 74) (fl_X10_67.r) d_X10_laysPrimitive_102 (wk_64 _) rfl rfl ?_
            refine G_bipush d_X10_laysPrimitive_105 (by decide) ?_
            refine G_iload_n d_X10_laysPrimitive_107 rfl ?_
            refine G_imul d_X10_laysPrimitive_108 ?_
            refine G_iload_n d_X10_laysPrimitive_109 rfl ?_
            refine G_iadd d_X10_laysPrimitive_110 ?_
            refine G_aload_n d_X10_laysPrimitive_111 rfl ?_
            refine G_getR (r := 73) (fl_X10_64.r) d_X10_laysPrimitive_112 (wk_64 _) rfl rfl ?_
            refine G_iload_n d_X10_laysPrimitive_115 rfl ?_
            refine G_laldj (k) d_X10_laysPrimitive_116 (wk_73 _) (by omega) (by omega) (by decide) ?_
            rw [h73 k (by omega)]
            refine G_lastj (49 * t + k) d_X10_laysPrimitive_117 (wk_74 _) (by omega) (by omega) (by decide) ?_
            refine G_iinc d_X10_laysPrimitive_118 rfl (by decide) rfl ?_
            refine G_goto 96 d_X10_laysPrimitive_121 (by decide) ?_
            exact ih (by omega) _ (fun a h1 h2 h3 => by rw [upm_off _ _ h2]; exact hm a h1 h2 h3) (fun d h1 h2 h3 => by
              obtain ⟨p1, p2⟩ := hPT d h1 h2 h3
              have hdl := degF_lt h1 (by omega)
              refine ⟨by rw [upm_off _ _ (by decide)]; exact p1, fun j hj => ?_⟩
              rw [upm_ne _ _ (fun _ => by omega)]
              exact p2 j hj) (by rw [upm_off _ _ (by decide)]; exact h75) (fun j hj => by rw [upm_off _ _ (by decide)]; exact h73 j hj) (fun j hj => by
              by_cases e : j = k
              · rw [e, upm_same]
              · rw [upm_ne _ _ (fun _ => by omega)]; exact hz j (by omega))
        have C63 : ∀ e : Nat, e ≤ t - 1 → ∀ m1, (∀ a, a ≠ 73 → a ≠ 74 → a ≠ 75 → m1 a = m a) → PT (pT s) t m1 → (∀ j, j < 49 → m1 73 j = qv t (ix t e) j) → G M_X10_laysPrimitive 1 0 0 63 [rV 64, iV (t : Int), iV (hg t e : Int), iV ((e : Int) + 1)] [] (WC ++ (WM ++ w), m1) (fun r h => r = none ∧ ∃ m2, h = (WC ++ (WM ++ w), m2) ∧ (∀ a, a ≠ 64 → a ≠ 72 → a ≠ 73 → a ≠ 74 → a ≠ 75 → m2 a = m a) ∧ (∀ j, j ≠ 16 → m2 64 j = m 64 j) ∧ PRI (pT s) m2) := by
          refine loop_up (t - 1) _ ?_
          intro e he ih m1 hm hPT hQ
          refine G_iload_n d_X10_laysPrimitive_63 rfl ?_
          refine G_iload_n d_X10_laysPrimitive_64 rfl ?_
          refine G_icmp_ge 87 d_X10_laysPrimitive_65 (by decide) (by omega) (by omega) (fun c65 => ?_) (fun c65 => ?_)
          · have het : e = t - 1 := by omega
            subst het
            rw [f2]
            refine G_aload_n d_X10_laysPrimitive_87 rfl ?_
            refine G_getR (r := 75) (fl_X10_70.r) d_X10_laysPrimitive_88 (wk_64 _) rfl rfl ?_
            refine G_iload_n d_X10_laysPrimitive_91 rfl ?_
            refine G_iload_n d_X10_laysPrimitive_92 rfl ?_
            refine G_iastj (t) d_X10_laysPrimitive_93 (wk_75 _) (by omega) (by omega) (by decide) ?_
            refine G_iconst d_X10_laysPrimitive_94 ?_
            refine G_istore_n d_X10_laysPrimitive_95 (by decide) rfl ?_
            exact C96 0 (by omega) _ (fun a h1 h2 h3 => by rw [upm_off _ _ h3]; exact hm a h1 h2 h3) (fun d h1 h2 h3 => by
              rw [upm_ne _ _ (fun _ => by omega), upm_off _ _ (by decide)]; exact hPT d h1 h2 h3) (upm_same _ _ _ _) (fun j hj => by rw [upm_off _ _ (by decide), hQ j (by have := degF_lt (d := t) (by omega) (by omega); omega)]; exact f3 j hj) (fun j hj => absurd hj (by omega))
          · refine G_iload_n d_X10_laysPrimitive_68 rfl ?_
            refine G_iload_n d_X10_laysPrimitive_69 rfl ?_
            refine G_iremN (t) (e + 1) (rfl) (by omega) d_X10_laysPrimitive_70 (by omega) (by omega) (by omega) ?_
            have hml : t % (e + 1) < e + 1 := Nat.mod_lt _ (by omega)
            refine G_if_ne 81 d_X10_laysPrimitive_71 (by decide) (by omega) (fun c71 => ?_) (fun c71 => ?_)
            · refine G_iinc d_X10_laysPrimitive_81 rfl (by decide) rfl ?_
              refine G_goto 63 d_X10_laysPrimitive_84 (by decide) ?_
              have hdv : ¬ t % (e + 1) = 0 := by omega
              have h3 := ih (by omega) m1 hm hPT (by rw [show ix t (e + 1) = ix t e by show (if t % (e + 1) = 0 then ix t e + 1 else ix t e) = _; rw [if_neg hdv]]; exact hQ)
              rw [show hg t (e + 1) = hg t e by show (if t % (e + 1) = 0 then hg t e - degF (e + 1) else hg t e) = _; rw [if_neg hdv]] at h3
              exact h3
            · refine G_aload_n d_X10_laysPrimitive_74 rfl ?_
              refine G_iload_n d_X10_laysPrimitive_75 rfl ?_
              refine G_iload_n d_X10_laysPrimitive_76 rfl ?_
              have hdv : t % (e + 1) = 0 := by omega
              obtain ⟨k1, k2, k3, k4, k5⟩ := f4 e (by omega) hdv
              obtain ⟨q1, q2⟩ := hPT (e + 1) (by omega) (by omega) (Nat.mod_eq_zero_of_dvd (Nat.dvd_trans (Nat.dvd_of_mod_eq_zero hdv) (Nat.dvd_of_mod_eq_zero hyes)))
              refine G_callV2 cl_X10_221 rfl d_X10_laysPrimitive_77 (wk_64 _) (Nat.le_of_ble_eq_true rfl) (by decide) (sp_MdividesBy (cycF (e + 1)) (qv t (ix t (e + 1))) (e + 1) (hg t e) (degF (e + 1)) (by omega) (by have := hg_le t e; omega) ⟨k3, k2⟩ q1 q2 k4 (fun j hj => by rw [hQ j hj]; exact k1 j hj) (fun x h1 h2 => k5 x (by rw [show hg t (e + 1) = hg t e - degF (e + 1) by show (if t % (e + 1) = 0 then hg t e - degF (e + 1) else hg t e) = _; rw [if_pos hdv]]; exact h1) h2)) ?_
              rintro _ _ ⟨rfl, m2, rfl, hm2, h732⟩
              refine G_istore_n d_X10_laysPrimitive_80 (by decide) rfl ?_
              refine G_iinc d_X10_laysPrimitive_81 rfl (by decide) rfl ?_
              refine G_goto 63 d_X10_laysPrimitive_84 (by decide) ?_
              have h3 := ih (by omega) m2 (fun a h1 h2 h3 => by rw [hm2 a h1]; exact hm a h1 h2 h3) (fun d h1 h2 h3 => by rw [hm2 75 (by decide), hm2 74 (by decide)]; exact hPT d h1 h2 h3) h732
              rw [show hg t (e + 1) = hg t e - degF (e + 1) by show (if t % (e + 1) = 0 then hg t e - degF (e + 1) else hg t e) = _; rw [if_pos hdv]] at h3
              exact h3
        have C24 : ∀ k : Nat, k ≤ 49 → ∀ m1, (∀ a, a ≠ 73 → a ≠ 74 → a ≠ 75 → m1 a = m a) → PT (pT s) t m1 → G M_X10_laysPrimitive 1 0 0 24 [rV 64, iV (t : Int), iV (k : Int), uV] [] (WC ++ (WM ++ w), flm m1 73 0 k 0) (fun r h => r = none ∧ ∃ m2, h = (WC ++ (WM ++ w), m2) ∧ (∀ a, a ≠ 64 → a ≠ 72 → a ≠ 73 → a ≠ 74 → a ≠ 75 → m2 a = m a) ∧ (∀ j, j ≠ 16 → m2 64 j = m 64 j) ∧ PRI (pT s) m2) := by
          refine loop_up (49) _ ?_
          intro k hk ih m1 hm hPT
          refine G_iload_n d_X10_laysPrimitive_24 rfl ?_
          refine G_bipush d_X10_laysPrimitive_25 (by decide) ?_
          refine G_icmp_gt 43 d_X10_laysPrimitive_27 (by decide) (by omega) (by omega) (fun c27 => ?_) (fun c27 => ?_)
          · have hk49 : k = 49 := by omega
            subst hk49
            refine G_aload_n d_X10_laysPrimitive_43 rfl ?_
            refine G_getR (r := 73) (fl_X10_64.r) d_X10_laysPrimitive_44 (wk_64 _) rfl rfl ?_
            refine G_iconst d_X10_laysPrimitive_47 ?_
            refine G_ldc2 d_X10_laysPrimitive_48 co_X10_219 ?_
            refine G_lastj (0) d_X10_laysPrimitive_51 (wk_73 _) (by omega) (by omega) (by decide) ?_
            refine G_aload_n d_X10_laysPrimitive_52 rfl ?_
            refine G_getR (r := 73) (fl_X10_64.r) d_X10_laysPrimitive_53 (wk_64 _) rfl rfl ?_
            refine G_iload_n d_X10_laysPrimitive_56 rfl ?_
            refine G_lconst d_X10_laysPrimitive_57 ?_
            refine G_lastj (t) d_X10_laysPrimitive_58 (wk_73 _) (by omega) (by omega) (by decide) ?_
            refine G_iload_n d_X10_laysPrimitive_59 rfl ?_
            refine G_istore_n d_X10_laysPrimitive_60 (by decide) rfl ?_
            refine G_iconst d_X10_laysPrimitive_61 ?_
            refine G_istore_n d_X10_laysPrimitive_62 (by decide) rfl ?_
            refine G.fg (C63 0 (by omega) _ (fun a h1 h2 h3 => by rw [upm_off _ _ h1, upm_off _ _ h1, flm_off _ _ _ _ h1]; exact hm a h1 h2 h3) (fun d h1 h2 h3 => by
              rw [upm_off _ _ (by decide), upm_off _ _ (by decide), flm_off _ _ _ _ (by decide), upm_off _ _ (by decide), upm_off _ _ (by decide), flm_off _ _ _ _ (by decide)]; exact hPT d h1 h2 h3) (fun j hj => ?_)) ?_
            · rw [show ix t 0 = 0 from rfl, f1 j hj]
              by_cases e0 : j = 0
              · rw [if_pos e0, upm_ne _ _ (fun _ => by omega), e0, upm_same]
              · rw [if_neg e0]
                by_cases e1 : j = t
                · rw [if_pos e1, e1, upm_same]; rfl
                · rw [if_neg e1, upm_ne _ _ (fun _ => e1), upm_ne _ _ (fun _ => e0), flm_in _ _ (by omega) hj]
            · repeat (first | exact trivial | refine wkL_cons (Or.inl rfl) ?_ | refine wkL_cons (Or.inr rfl) ?_)
          · refine G_aload_n d_X10_laysPrimitive_30 rfl ?_
            refine G_getR (r := 73) (fl_X10_64.r) d_X10_laysPrimitive_31 (wk_64 _) rfl rfl ?_
            refine G_iload_n d_X10_laysPrimitive_34 rfl ?_
            refine G_lconst d_X10_laysPrimitive_35 ?_
            refine G_lastj (k) d_X10_laysPrimitive_36 (wk_73 _) (by omega) (by omega) (by decide) ?_
            refine G_iinc d_X10_laysPrimitive_37 rfl (by decide) rfl ?_
            refine G_goto 24 d_X10_laysPrimitive_40 (by decide) ?_
            have h3 := ih (by omega) m1 hm hPT
            rw [← flm_step m1 73 0 k 0 (by omega)] at h3
            exact h3
        intro m1 hm hPT
        refine G_iload_n d_X10_laysPrimitive_2 rfl ?_
        refine G_aload_n d_X10_laysPrimitive_3 rfl ?_
        refine G_callV0 cl_X10_148 rfl d_X10_laysPrimitive_4 (wk_64 _) (Nat.le_of_ble_eq_true rfl) (by decide) (sp_Mt s hV (fun j hj => (congrFun (hm 65 (by decide) (by decide) (by decide)) j).trans (hO j hj))) ?_
        rintro _ _ ⟨rfl, rfl⟩
        refine G_icmp_gt 130 d_X10_laysPrimitive_7 (by decide) (by omega) (by omega) (fun c7 => ?_) (fun c7 => ?_)
        · omega
        · refine G_aload_n d_X10_laysPrimitive_10 rfl ?_
          refine G_callV0 cl_X10_148 rfl d_X10_laysPrimitive_11 (wk_64 _) (Nat.le_of_ble_eq_true rfl) (by decide) (sp_Mt s hV (fun j hj => (congrFun (hm 65 (by decide) (by decide) (by decide)) j).trans (hO j hj))) ?_
          rintro _ _ ⟨rfl, rfl⟩
          refine G_iload_n d_X10_laysPrimitive_14 rfl ?_
          refine G_iremN (pT s) (t) (rfl) (rfl) d_X10_laysPrimitive_15 (by omega) (by omega) (by omega) ?_
          have hml : pT s % t < t := Nat.mod_lt _ (by omega)
          refine G_if_eq 22 d_X10_laysPrimitive_16 (by decide) (by omega) (fun c16 => ?_) (fun c16 => ?_)
          · refine G_iconst d_X10_laysPrimitive_22 ?_
            refine G_istore_n d_X10_laysPrimitive_23 (by decide) rfl ?_
            have h3 := C24 0 (by omega) m1 hm hPT
            rw [flm_nil] at h3
            exact h3
          · omega
      · intro m1 hm hPT
        refine G_iload_n d_X10_laysPrimitive_2 rfl ?_
        refine G_aload_n d_X10_laysPrimitive_3 rfl ?_
        refine G_callV0 cl_X10_148 rfl d_X10_laysPrimitive_4 (wk_64 _) (Nat.le_of_ble_eq_true rfl) (by decide) (sp_Mt s hV (fun j hj => (congrFun (hm 65 (by decide) (by decide) (by decide)) j).trans (hO j hj))) ?_
        rintro _ _ ⟨rfl, rfl⟩
        refine G_icmp_gt 130 d_X10_laysPrimitive_7 (by decide) (by omega) (by omega) (fun c7 => ?_) (fun c7 => ?_)
        · omega
        · refine G_aload_n d_X10_laysPrimitive_10 rfl ?_
          refine G_callV0 cl_X10_148 rfl d_X10_laysPrimitive_11 (wk_64 _) (Nat.le_of_ble_eq_true rfl) (by decide) (sp_Mt s hV (fun j hj => (congrFun (hm 65 (by decide) (by decide) (by decide)) j).trans (hO j hj))) ?_
          rintro _ _ ⟨rfl, rfl⟩
          refine G_iload_n d_X10_laysPrimitive_14 rfl ?_
          refine G_iremN (pT s) (t) (rfl) (rfl) d_X10_laysPrimitive_15 (by omega) (by omega) (by omega) ?_
          have hml : pT s % t < t := Nat.mod_lt _ (by omega)
          refine G_if_eq 22 d_X10_laysPrimitive_16 (by decide) (by omega) (fun c16 => ?_) (fun c16 => ?_)
          · omega
          · refine G_goto 124 d_X10_laysPrimitive_19 (by decide) ?_
            refine G_iinc d_X10_laysPrimitive_124 rfl (by decide) rfl ?_
            refine G_goto 2 d_X10_laysPrimitive_127 (by decide) ?_
            exact ih_t (by omega) m1 hm (fun d h1 h2 h3 => by
              by_cases e : d = t
              · subst e; exact absurd h3 hyes
              · exact hPT d h1 (by omega) h3)
    · intro m1 hm hPT
      have htt : t = pT s + 1 := by omega
      obtain ⟨p1, p2⟩ := hPT (pT s) (by omega) (by omega) (Nat.mod_self _)
      refine G_iload_n d_X10_laysPrimitive_2 rfl ?_
      refine G_aload_n d_X10_laysPrimitive_3 rfl ?_
      refine G_callV0 cl_X10_148 rfl d_X10_laysPrimitive_4 (wk_64 _) (Nat.le_of_ble_eq_true rfl) (by decide) (sp_Mt s hV (fun j hj => (congrFun (hm 65 (by decide) (by decide) (by decide)) j).trans (hO j hj))) ?_
      rintro _ _ ⟨rfl, rfl⟩
      refine G_icmp_gt 130 d_X10_laysPrimitive_7 (by decide) (by omega) (by omega) (fun c7 => ?_) (fun c7 => ?_)
      · refine G_aload_n d_X10_laysPrimitive_130 rfl ?_
        refine G_aload_n d_X10_laysPrimitive_131 rfl ?_
        refine G_getR (r := 75) (fl_X10_70.r) d_X10_laysPrimitive_132 (wk_64 _) rfl rfl ?_
        refine G_aload_n d_X10_laysPrimitive_135 rfl ?_
        refine G_callV0 cl_X10_148 rfl d_X10_laysPrimitive_136 (wk_64 _) (Nat.le_of_ble_eq_true rfl) (by decide) (sp_Mt s hV (fun j hj => (congrFun (hm 65 (by decide) (by decide) (by decide)) j).trans (hO j hj))) ?_
        rintro _ _ ⟨rfl, rfl⟩
        refine G_ialdj (pT s) d_X10_laysPrimitive_139 (wk_75 _) (by omega) (by omega) (by decide) ?_
        rw [p1]
        refine G_putII fl_X10_224 d_X10_laysPrimitive_140 (wk_64 _) rfl ?_
        refine G_iconst d_X10_laysPrimitive_143 ?_
        refine G_istore_n d_X10_laysPrimitive_144 (by decide) rfl ?_
        refine G.fg (LA 0 (by omega) _ (fun a h1 h2 h3 h4 h5 => by rw [upm_off _ _ h1]; exact hm a h3 h4 h5) (fun j hj => by rw [upm_ne _ _ (fun _ => hj)]; exact congrFun (hm 64 (by decide) (by decide) (by decide)) j) (upm_same _ _ _ _) (fun j hj => by rw [upm_off _ _ (by decide)]; exact p2 j hj) (fun j hj => absurd hj (by omega))) ?_
        repeat (first | exact trivial | refine wkL_cons (Or.inl rfl) ?_ | refine wkL_cons (Or.inr rfl) ?_)
      · omega
  refine G_iconst d_X10_laysPrimitive_0 ?_
  refine G_istore_n d_X10_laysPrimitive_1 (by decide) rfl ?_
  exact LT 1 (by omega) (Nat.le_refl _) m (fun _ _ _ _ => rfl) (fun d h1 h2 => absurd h2 (by omega))
