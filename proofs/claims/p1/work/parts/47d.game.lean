/-! ===== game: the reference ===== -/
def hM : Nat → AH
  | 0 => [[Sum.inr (Sum.inl (9, 2416004710283417882112536399490603192025371587878763870850202141750697982867381131977650316889062172592157632654473852066311849122763758570683276955967368030214479260637646179103277759843585208432209557322033448407103287791196271820918871407068705289284565200439723329140441644806017418348837316423228982626988202997764455657234894109765096848926856518293745375261511487292503644920210360430342485747649942328688073585206808746121137854598841432420300086016795490002512589926911087896022322575143434903732964245948670799967963272041211589132158259031662878875761939588838856934848471976047136310123119540098625028605237547543579898886624847771891785200813986308965470699217312256864863750647156550204082566727729154)), Sum.inl (0, 6, 0), Sum.inl (0, 48, 0), Sum.inl (0, 6, 0), Sum.inl (0, 10, 497323236525578731419658390243819566640659256139144307488153203229972377654773399158785), Sum.inl (0, 5200, 0), Sum.inl (0, 5200, 0), Sum.inl (0, 5200, 0)],
  [Sum.inl (0, 5200, 0), Sum.inl (0, 200000, 0), Sum.inl (0, 1601, 0), Sum.inl (0, 1601, 0), Sum.inl (0, 1601, 0), Sum.inl (0, 1601, 0), Sum.inl (0, 1601, 0), Sum.inl (0, 200000, 0)],
  [Sum.inl (1, 2563201, 0), Sum.inl (0, 1600, 0), Sum.inl (0, 1600, 0), Sum.inl (0, 1600, 0), Sum.inl (0, 1600, 0), Sum.inl (0, 2000, 0), Sum.inl (1, 65536, 0), Sum.inl (0, 65536, 0)],
  [Sum.inl (1, 520, 0), Sum.inl (2, 520, 0), Sum.inl (0, 520, 0), Sum.inl (2, 1040, 0), Sum.inl (0, 1040, 0), Sum.inl (0, 12, 0), Sum.inl (1, 8192, 0), Sum.inl (0, 1600, 0)],
  [Sum.inl (0, 1600, 0), Sum.inl (0, 1600, 0), Sum.inl (0, 1600, 0)]]
  | _ + 1 => [[Sum.inr (Sum.inl (9, 2416004710283417882112536399490603192025371587878763870850202141750697982867381131977650316889062172592157632654473852066311849122763758570683276955967368030214479260637646179103277759843585208432209557322033448407103287791196271820918871407068705289284565200439723329140441644806017418348837316423228982626988202997764455657234894109765096848926856518293745375261511487292503644920210360430342485747649942328688073585206808746121137854598841432420300086016795490002512589926911087896022322575143434903732964245948670799967963272041211589132405589433135983409822442109858504124883603325148348150037182596191522253711769414713896299947867892761489456626830125648316835733524063466832409905749049718120689338876428290)), Sum.inl (0, 6, 0), Sum.inl (0, 48, 0), Sum.inl (0, 6, 0), Sum.inl (0, 10, 497323236525578731419658390243819566640659256139144307488153203229972377654773399158785), Sum.inl (0, 5200, 0), Sum.inl (0, 5200, 0), Sum.inl (0, 5200, 0)],
  [Sum.inl (0, 5200, 0), Sum.inl (0, 200000, 0), Sum.inl (0, 1601, 0), Sum.inl (0, 1601, 0), Sum.inl (0, 1601, 0), Sum.inl (0, 1601, 0), Sum.inl (0, 1601, 0), Sum.inl (0, 200000, 0)],
  [Sum.inl (1, 2563201, 266774498862564267720100884393104185894915407072827035916509338562522098418614913433908695457043816504915721126846296302470642338731703875898310100209676860717375510471722495860384234190070522234215584567650502963592433576392509041916110214733388683949762253975481101884179262969734924471266677473352582178142769192011491868201174813652893353235987302969594327741777321495216048444018888234911388590059761802337851059931616050498842650867071575480729479357233825743776963758187872259), Sum.inl (0, 1600, 0), Sum.inl (0, 1600, 0), Sum.inl (0, 1600, 0), Sum.inl (0, 1600, 0), Sum.inl (0, 2000, 0), Sum.inl (1, 65536, 0), Sum.inl (0, 65536, 0)],
  [Sum.inl (1, 520, 0), Sum.inl (2, 520, 0), Sum.inl (0, 520, 0), Sum.inl (2, 1040, 0), Sum.inl (0, 1040, 0), Sum.inl (0, 12, 0), Sum.inl (1, 8192, 0), Sum.inl (0, 1600, 0)],
  [Sum.inl (0, 1600, 0), Sum.inl (0, 1600, 0), Sum.inl (0, 1600, 0)]]
def hQ : Nat → AH
  | 0 => [[Sum.inr (Sum.inl (9, 2416004710283417882112536399490603192025371587878763870850202141750697982867381131977650316889062172592157632654473852066311849122763758570683276955967368030214479260637646179103277759843585208432209557322033448407103287791196271820918871407068705289284565200439723329140441644806017418348837316423228982626988202997764455657234894109765096848926856518293745375261511487292503644920210360430342485747649942328688073585206808746121137854598841432420300086016795490002512589926911087896022322575143434903732964245948670799967963272041211589132405589433135983409822442109858504124883603325148348150037182596191522253711769414713896299947867892761489456626830125648316835733524063466832409905749049718120689338876428290)), Sum.inl (0, 6, 0), Sum.inl (0, 48, 0), Sum.inl (0, 6, 0), Sum.inl (0, 10, 497323236525578731419658390243819566640659256139144307488153203229972377654773399158785), Sum.inl (0, 5200, 0), Sum.inl (0, 5200, 0), Sum.inl (0, 5200, 0)],
  [Sum.inl (0, 5200, 0), Sum.inl (0, 200000, 0), Sum.inl (0, 1601, 0), Sum.inl (0, 1601, 0), Sum.inl (0, 1601, 0), Sum.inl (0, 1601, 0), Sum.inl (0, 1601, 0), Sum.inl (0, 200000, 0)],
  [Sum.inl (1, 2563201, 266774498862564267720100884393104185894915407072827035916509338562522098418614913433908695457043816504915721126846296302470642338731703875898310100209676860717375510471722495860384234190070522234215584567650502963592433576392509041916110214733388683949762253975481101884179262969734924471266677473352582178142769192011491868201174813652893353235987302969594327741777321495216048444018888234911388590059761802337851059931616050498842650867071575480729479357233825743776963758187872259), Sum.inl (0, 1600, 0), Sum.inl (0, 1600, 0), Sum.inl (0, 1600, 0), Sum.inl (0, 1600, 0), Sum.inl (0, 2000, 0), Sum.inl (1, 65536, 0), Sum.inl (0, 65536, 0)],
  [Sum.inl (1, 520, 0), Sum.inl (2, 520, 0), Sum.inl (0, 520, 0), Sum.inl (2, 1040, 0), Sum.inl (0, 1040, 0), Sum.inl (0, 12, 0), Sum.inl (1, 8192, 0), Sum.inl (0, 1600, 0)],
  [Sum.inl (0, 1600, 0), Sum.inl (0, 1600, 0), Sum.inl (0, 1600, 0)]]
  | _ + 1 => [[Sum.inr (Sum.inl (9, 2416004710283417882112536399490603192025371587878763870850202141750697982867381131977650316889062172592157632654473852066311849122763758570683276955967368030214479260637646179103277759843585208432209557322033448407103287791196271820918871407068705289284565200439723329140441644806017418348837316423228982626988202997764455657234894109765096848926856518293745375261511487292503644920210360430342485747649942328688073585206808746121137854598841432420300086016795490002512589926911087896022322575143434903732964245948670799967963272041211589132405589433135983409822442109858504124883603325148348150037182596191522253711769414713896299947867892761489456626830125648316835733524063466832409905749049718120689338876428290)), Sum.inl (0, 6, 0), Sum.inl (0, 48, 0), Sum.inl (0, 6, 0), Sum.inl (0, 10, 497323236525578731419658390243819566640659256139144307488153203229972377654773399158785), Sum.inl (0, 5200, 0), Sum.inl (0, 5200, 0), Sum.inl (0, 5200, 0)],
  [Sum.inl (0, 5200, 0), Sum.inl (0, 200000, 0), Sum.inl (0, 1601, 0), Sum.inl (0, 1601, 0), Sum.inl (0, 1601, 0), Sum.inl (0, 1601, 0), Sum.inl (0, 1601, 0), Sum.inl (0, 200000, 0)],
  [Sum.inl (1, 2563201, 266774498862564267720100884393104185894915407072827035916509338562522098418614913433908695457043816504915721126846296302470642338731703875898310100209676860717375510471722495860384234190070522234215584567650502963592433576392509041916110214733388683949762253975481101884179262969734924471266677473352582178142769192011491868201174813652893353235987302969594327741777321495216048444018888234911388590059761802337851059931616050498842650867071575480729479357233825743776963758187872259), Sum.inl (0, 1600, 0), Sum.inl (0, 1600, 0), Sum.inl (0, 1600, 0), Sum.inl (0, 1600, 0), Sum.inl (0, 2000, 0), Sum.inl (1, 65536, 0), Sum.inl (0, 65536, 0)],
  [Sum.inl (1, 520, 0), Sum.inl (2, 520, 0), Sum.inl (0, 520, 0), Sum.inl (2, 1040, 0), Sum.inl (0, 1040, 0), Sum.inl (0, 12, 0), Sum.inl (1, 8192, 0), Sum.inl (0, 1600, 0)],
  [Sum.inl (0, 1600, 0), Sum.inl (0, 1600, 0), Sum.inl (0, 1600, 0)]]
def h4 (u w : Nat) : AH := [[Sum.inr (Sum.inl (9, Nat.add (Nat.add (Nat.mul u 20815864389328798163850480654728171077230524494533409610638224700807216119346720596024478883464648369684843227908562015582767132496646929816279813211354641525848259018778440691546366699323167100945918841095379622423387354295096957733925002768876520583464697770622321657076833170056511209332449663781837603694136444406281042053396870977465916057756101739472373801429441421111406337458176) (Nat.mul w 383984923062992702193107238768305990575971314802788874095145673202075995393018055488645297669674812185833211621938100469973519720714697045576788566898683254440275883795786334484525778054071087861396060398229434719927672395650215231472663143090071728679350725089418264731278276442800414037787428461842409521168393903855600900323733353159466811689332335765898192891862061280747855198528180896166938113212416)) 2416004710283417882112536399490603192025371587878763870850202141750697982867381131977650316889062172592157632654473852066311849122763758570683276955967368030214479260637646179103277759843585208432209557322033448407103287791196271820918871407068705289284565200439723329140441644806017418348837316423228982626988202997764455657234894109765096848926856518293745375261511487292503644920210360430342485747649942328688073585206808746121137854598841432420300086016795490002512589926911087896022322575143434903732964245948670799967963272041211589132405589433135983409822442109858504124883603325148348150037182596191522253711769414713896299947867892761489456626830125648316835733524063466832409905749049718120689338876428290)), Sum.inl (0, 6, 0), Sum.inl (0, 48, 0), Sum.inl (0, 6, 0), Sum.inl (0, 10, 497323236525578731419658390243819566640659256139144307488153203229972377654773399158785), Sum.inl (0, 5200, 0), Sum.inl (0, 5200, 0), Sum.inl (0, 5200, 0)],
  [Sum.inl (0, 5200, 0), Sum.inl (0, 200000, 0), Sum.inl (0, 1601, 0), Sum.inl (0, 1601, 0), Sum.inl (0, 1601, 0), Sum.inl (0, 1601, 0), Sum.inl (0, 1601, 0), Sum.inl (0, 200000, 0)],
  [Sum.inl (1, 2563201, 266774498862564267720100884393104185894915407072827035916509338562522098418614913433908695457043816504915721126846296302470642338731703875898310100209676860717375510471722495860384234190070522234215584567650502963592433576392509041916110214733388683949762253975481101884179262969734924471266677473352582178142769192011491868201174813652893353235987302969594327741777321495216048444018888234911388590059761802337851059931616050498842650867071575480729479357233825743776963758187872259), Sum.inl (0, 1600, 0), Sum.inl (0, 1600, 0), Sum.inl (0, 1600, 0), Sum.inl (0, 1600, 0), Sum.inl (0, 2000, 0), Sum.inl (1, 65536, 0), Sum.inl (0, 65536, 0)],
  [Sum.inl (1, 520, 0), Sum.inl (2, 520, 0), Sum.inl (0, 520, 0), Sum.inl (2, 1040, 0), Sum.inl (0, 1040, 0), Sum.inl (0, 12, 0), Sum.inl (1, 8192, 0), Sum.inl (0, 1600, 0)],
  [Sum.inl (0, 1600, 0), Sum.inl (0, 1600, 0), Sum.inl (0, 1600, 0)]]
set_option maxRecDepth 100000 in
theorem rg0 : q_all (fun x => q_all (fun y => q_stop 40 [some (aR 1), some (aU (a_tg 1 0 x) 2147483648 2147484671), some (aU (a_tg 2 0 y) 2147483648 2147484671), some (aU 0 2147483648 2147483657), some (aI (x + y)), some (aI 0), some (aI (0 + 1)), some (aI (x + y))] [] k_HM (mb_175_0 (a_runS k_BT (k_st [(134, 40), (135, 86), (136, 165), (137, 214)]) 10000) [some (aR 1), some (aU (a_tg 1 0 x) 2147483648 2147484671), some (aU (a_tg 2 0 y) 2147483648 2147484671), some (aU 0 2147483648 2147483657), none, none, none, none] [] k_HM)) 2) 2 = true := by decide +kernel
set_option maxRecDepth 100000 in
theorem rg1 : q_all (fun s => q_all (fun x => q_all (fun y => q_stop 40 [some (aR 1), some (aU (a_tg 1 s x) 2147483648 2147484671), some (aU (a_tg 2 s y) 2147483648 2147484671), some (aU 0 2147483648 2147483657), some (aU 0 (2147483648 + (x + y)) (2147483648 + 2 * s + (x + y))), some (aI 0), some (aI (s + 1)), some (aI (x + y))] [] k_HM (mb_175_40 (a_runS k_BT (k_st [(134, 40), (135, 86), (136, 165), (137, 214)]) 10000) [some (aR 1), some (aU (a_tg 1 s x) 2147483648 2147484671), some (aU (a_tg 2 s y) 2147483648 2147484671), some (aU 0 2147483648 2147483657), some (aU 0 2147483648 (2147483648 + 2 * s)), some (aI 0), some (aI s), none] [] k_HM)) 2) 2) 10 = true := by decide +kernel
set_option maxRecDepth 100000 in
theorem rg2 : q_all (fun x => q_all (fun y => q_stop 86 [some (aR 1), some (aU (a_tg 1 0 x) 2147483648 2147484671), some (aU (a_tg 2 0 y) 2147483648 2147484671), some (aU 0 2147483648 2147483657), some (aU 0 2147483648 (2147483648 + 20)), some (aI 0), some (aI (0 + 1)), none] [] (hM (Nat.lor 0 (Nat.lor x y))) (mb_175_40 (a_runS k_BT (k_st [(134, 40), (135, 86), (136, 165), (137, 214)]) 10000) [some (aR 1), some (aU (a_tg 1 0 x) 2147483648 2147484671), some (aU (a_tg 2 0 y) 2147483648 2147484671), some (aU 0 2147483648 2147483657), some (aU 0 2147483648 (2147483648 + 20)), some (aI 0), some (aI 10), none] [] k_HM)) 2) 2 = true := by decide +kernel
set_option maxRecDepth 100000 in
theorem rg3 : q_all (fun s => q_all (fun f => q_all (fun x => q_all (fun y => q_stop 86 [some (aR 1), some (aU (a_tg 1 s x) 2147483648 2147484671), some (aU (a_tg 2 s y) 2147483648 2147484671), some (aU 0 2147483648 2147483657), some (aU 0 2147483648 (2147483648 + 20)), some (aI 0), some (aI (s + 1)), none] [] (hM (Nat.lor f (Nat.lor x y))) (mb_175_86 (a_runS k_BT (k_st [(134, 40), (135, 86), (136, 165), (137, 214)]) 10000) [some (aR 1), some (aU (a_tg 1 s x) 2147483648 2147484671), some (aU (a_tg 2 s y) 2147483648 2147484671), some (aU 0 2147483648 2147483657), some (aU 0 2147483648 (2147483648 + 20)), some (aI 0), some (aI s), none] [] (hM f))) 2) 2) 2) 10 = true := by decide +kernel
set_option maxRecDepth 100000 in
theorem rg4 : q_all (fun x => q_all (fun y => q_stop 165 [some (aR 1), some (aU (a_tg 1 0 x) 2147483648 2147484671), some (aU (a_tg 2 0 y) 2147483648 2147484671), some (aU 0 2147483648 2147483657), some (aU 0 2147483648 (2147483648 + 20)), some (aI 0), some (aI (0 + 1)), none] [] (hQ (Nat.lor 0 (Nat.lor x y))) (mb_175_86 (a_runS k_BT (k_st [(134, 40), (135, 86), (136, 165), (137, 214)]) 10000) [some (aR 1), some (aU (a_tg 1 0 x) 2147483648 2147484671), some (aU (a_tg 2 0 y) 2147483648 2147484671), some (aU 0 2147483648 2147483657), some (aU 0 2147483648 (2147483648 + 20)), some (aI 0), some (aI 10), none] [] (hM 1))) 2) 2 = true := by decide +kernel
set_option maxRecDepth 100000 in
theorem rg5 : q_all (fun s => q_all (fun f => q_all (fun x => q_all (fun y => q_stop 165 [some (aR 1), some (aU (a_tg 1 s x) 2147483648 2147484671), some (aU (a_tg 2 s y) 2147483648 2147484671), some (aU 0 2147483648 2147483657), some (aU 0 2147483648 (2147483648 + 20)), some (aI 0), some (aI (s + 1)), none] [] (hQ (Nat.lor f (Nat.lor x y))) (mb_175_165 (a_runS k_BT (k_st [(134, 40), (135, 86), (136, 165), (137, 214)]) 10000) [some (aR 1), some (aU (a_tg 1 s x) 2147483648 2147484671), some (aU (a_tg 2 s y) 2147483648 2147484671), some (aU 0 2147483648 2147483657), some (aU 0 2147483648 (2147483648 + 20)), some (aI 0), some (aI s), none] [] (hQ f))) 2) 2) 2) 10 = true := by decide +kernel
set_option maxRecDepth 100000 in
theorem rg6 : q_all (fun x => q_all (fun y => q_stop 214 [some (aR 1), some (aU (a_tg 1 0 x) 2147483648 2147484671), some (aU (a_tg 2 0 y) 2147483648 2147484671), some (aU 0 2147483648 2147483657), some (aU 0 2147483648 (2147483648 + 20)), some (aI 0), some (aI (0 + 1)), none] [] (h4 (0 + x) (0 + y)) (mb_175_165 (a_runS k_BT (k_st [(134, 40), (135, 86), (136, 165), (137, 214)]) 10000) [some (aR 1), some (aU (a_tg 1 0 x) 2147483648 2147484671), some (aU (a_tg 2 0 y) 2147483648 2147484671), some (aU 0 2147483648 2147483657), some (aU 0 2147483648 (2147483648 + 20)), some (aI 0), some (aI 10), none] [] (hQ 1))) 2) 2 = true := by decide +kernel
set_option maxRecDepth 100000 in
theorem rg7_1 : q_all (fun u => q_all (fun w => q_all (fun x => q_all (fun y => q_stop 214 [some (aR 1), some (aU (a_tg 1 1 x) 2147483648 2147484671), some (aU (a_tg 2 1 y) 2147483648 2147484671), some (aU 0 2147483648 2147483657), some (aU 0 2147483648 (2147483648 + 20)), some (aI 0), some (aI (1 + 1)), none] [] (h4 (u + x) (w + y)) (mb_175_214 (a_runS k_BT (k_st [(134, 40), (135, 86), (136, 165), (137, 214)]) 10000) [some (aR 1), some (aU (a_tg 1 1 x) 2147483648 2147484671), some (aU (a_tg 2 1 y) 2147483648 2147484671), some (aU 0 2147483648 2147483657), some (aU 0 2147483648 (2147483648 + 20)), some (aI 0), some (aI 1), none] [] (h4 u w))) 2) 2) 2) 2 = true := by decide +kernel
set_option maxRecDepth 100000 in
theorem rg7_2 : q_all (fun u => q_all (fun w => q_all (fun x => q_all (fun y => q_stop 214 [some (aR 1), some (aU (a_tg 1 2 x) 2147483648 2147484671), some (aU (a_tg 2 2 y) 2147483648 2147484671), some (aU 0 2147483648 2147483657), some (aU 0 2147483648 (2147483648 + 20)), some (aI 0), some (aI (2 + 1)), none] [] (h4 (u + x) (w + y)) (mb_175_214 (a_runS k_BT (k_st [(134, 40), (135, 86), (136, 165), (137, 214)]) 10000) [some (aR 1), some (aU (a_tg 1 2 x) 2147483648 2147484671), some (aU (a_tg 2 2 y) 2147483648 2147484671), some (aU 0 2147483648 2147483657), some (aU 0 2147483648 (2147483648 + 20)), some (aI 0), some (aI 2), none] [] (h4 u w))) 2) 2) 3) 3 = true := by decide +kernel
set_option maxRecDepth 100000 in
theorem rg7_3 : q_all (fun u => q_all (fun w => q_all (fun x => q_all (fun y => q_stop 214 [some (aR 1), some (aU (a_tg 1 3 x) 2147483648 2147484671), some (aU (a_tg 2 3 y) 2147483648 2147484671), some (aU 0 2147483648 2147483657), some (aU 0 2147483648 (2147483648 + 20)), some (aI 0), some (aI (3 + 1)), none] [] (h4 (u + x) (w + y)) (mb_175_214 (a_runS k_BT (k_st [(134, 40), (135, 86), (136, 165), (137, 214)]) 10000) [some (aR 1), some (aU (a_tg 1 3 x) 2147483648 2147484671), some (aU (a_tg 2 3 y) 2147483648 2147484671), some (aU 0 2147483648 2147483657), some (aU 0 2147483648 (2147483648 + 20)), some (aI 0), some (aI 3), none] [] (h4 u w))) 2) 2) 4) 4 = true := by decide +kernel
set_option maxRecDepth 100000 in
theorem rg7_4 : q_all (fun u => q_all (fun w => q_all (fun x => q_all (fun y => q_stop 214 [some (aR 1), some (aU (a_tg 1 4 x) 2147483648 2147484671), some (aU (a_tg 2 4 y) 2147483648 2147484671), some (aU 0 2147483648 2147483657), some (aU 0 2147483648 (2147483648 + 20)), some (aI 0), some (aI (4 + 1)), none] [] (h4 (u + x) (w + y)) (mb_175_214 (a_runS k_BT (k_st [(134, 40), (135, 86), (136, 165), (137, 214)]) 10000) [some (aR 1), some (aU (a_tg 1 4 x) 2147483648 2147484671), some (aU (a_tg 2 4 y) 2147483648 2147484671), some (aU 0 2147483648 2147483657), some (aU 0 2147483648 (2147483648 + 20)), some (aI 0), some (aI 4), none] [] (h4 u w))) 2) 2) 5) 5 = true := by decide +kernel
set_option maxRecDepth 100000 in
theorem rg7_5 : q_all (fun u => q_all (fun w => q_all (fun x => q_all (fun y => q_stop 214 [some (aR 1), some (aU (a_tg 1 5 x) 2147483648 2147484671), some (aU (a_tg 2 5 y) 2147483648 2147484671), some (aU 0 2147483648 2147483657), some (aU 0 2147483648 (2147483648 + 20)), some (aI 0), some (aI (5 + 1)), none] [] (h4 (u + x) (w + y)) (mb_175_214 (a_runS k_BT (k_st [(134, 40), (135, 86), (136, 165), (137, 214)]) 10000) [some (aR 1), some (aU (a_tg 1 5 x) 2147483648 2147484671), some (aU (a_tg 2 5 y) 2147483648 2147484671), some (aU 0 2147483648 2147483657), some (aU 0 2147483648 (2147483648 + 20)), some (aI 0), some (aI 5), none] [] (h4 u w))) 2) 2) 6) 6 = true := by decide +kernel
set_option maxRecDepth 100000 in
theorem rg7_6 : q_all (fun u => q_all (fun w => q_all (fun x => q_all (fun y => q_stop 214 [some (aR 1), some (aU (a_tg 1 6 x) 2147483648 2147484671), some (aU (a_tg 2 6 y) 2147483648 2147484671), some (aU 0 2147483648 2147483657), some (aU 0 2147483648 (2147483648 + 20)), some (aI 0), some (aI (6 + 1)), none] [] (h4 (u + x) (w + y)) (mb_175_214 (a_runS k_BT (k_st [(134, 40), (135, 86), (136, 165), (137, 214)]) 10000) [some (aR 1), some (aU (a_tg 1 6 x) 2147483648 2147484671), some (aU (a_tg 2 6 y) 2147483648 2147484671), some (aU 0 2147483648 2147483657), some (aU 0 2147483648 (2147483648 + 20)), some (aI 0), some (aI 6), none] [] (h4 u w))) 2) 2) 7) 7 = true := by decide +kernel
set_option maxRecDepth 100000 in
theorem rg7_7 : q_all (fun u => q_all (fun w => q_all (fun x => q_all (fun y => q_stop 214 [some (aR 1), some (aU (a_tg 1 7 x) 2147483648 2147484671), some (aU (a_tg 2 7 y) 2147483648 2147484671), some (aU 0 2147483648 2147483657), some (aU 0 2147483648 (2147483648 + 20)), some (aI 0), some (aI (7 + 1)), none] [] (h4 (u + x) (w + y)) (mb_175_214 (a_runS k_BT (k_st [(134, 40), (135, 86), (136, 165), (137, 214)]) 10000) [some (aR 1), some (aU (a_tg 1 7 x) 2147483648 2147484671), some (aU (a_tg 2 7 y) 2147483648 2147484671), some (aU 0 2147483648 2147483657), some (aU 0 2147483648 (2147483648 + 20)), some (aI 0), some (aI 7), none] [] (h4 u w))) 2) 2) 8) 8 = true := by decide +kernel
set_option maxRecDepth 100000 in
theorem rg7_8 : q_all (fun u => q_all (fun w => q_all (fun x => q_all (fun y => q_stop 214 [some (aR 1), some (aU (a_tg 1 8 x) 2147483648 2147484671), some (aU (a_tg 2 8 y) 2147483648 2147484671), some (aU 0 2147483648 2147483657), some (aU 0 2147483648 (2147483648 + 20)), some (aI 0), some (aI (8 + 1)), none] [] (h4 (u + x) (w + y)) (mb_175_214 (a_runS k_BT (k_st [(134, 40), (135, 86), (136, 165), (137, 214)]) 10000) [some (aR 1), some (aU (a_tg 1 8 x) 2147483648 2147484671), some (aU (a_tg 2 8 y) 2147483648 2147484671), some (aU 0 2147483648 2147483657), some (aU 0 2147483648 (2147483648 + 20)), some (aI 0), some (aI 8), none] [] (h4 u w))) 2) 2) 9) 9 = true := by decide +kernel
set_option maxRecDepth 100000 in
theorem rg7_9 : q_all (fun u => q_all (fun w => q_all (fun x => q_all (fun y => q_stop 214 [some (aR 1), some (aU (a_tg 1 9 x) 2147483648 2147484671), some (aU (a_tg 2 9 y) 2147483648 2147484671), some (aU 0 2147483648 2147483657), some (aU 0 2147483648 (2147483648 + 20)), some (aI 0), some (aI (9 + 1)), none] [] (h4 (u + x) (w + y)) (mb_175_214 (a_runS k_BT (k_st [(134, 40), (135, 86), (136, 165), (137, 214)]) 10000) [some (aR 1), some (aU (a_tg 1 9 x) 2147483648 2147484671), some (aU (a_tg 2 9 y) 2147483648 2147484671), some (aU 0 2147483648 2147483657), some (aU 0 2147483648 (2147483648 + 20)), some (aI 0), some (aI 9), none] [] (h4 u w))) 2) 2) 10) 10 = true := by decide +kernel
def T11 : List Nat := [1, 2, 2, 2]
set_option maxRecDepth 100000 in
theorem rg8_0 : q_all (fun w => q_1 (k_l T11 (0 + Nat.sub 1 (Nat.sub 1 w))) 35 Z_M (mb_175_214 (a_run k_BT 100000) [some (aR 1), some (aB 1 2147483648 2147484671), some (aB 2 2147483648 2147484671), some (aU 0 2147483648 2147483657), some (aU 0 2147483648 (2147483648 + 20)), some (aI 0), some (aI 10), none] [] (h4 0 w))) 11 = true := by decide +kernel
set_option maxRecDepth 100000 in
theorem rg8_1 : q_all (fun w => q_1 (k_l T11 (2 + Nat.sub 1 (Nat.sub 1 w))) 35 Z_M (mb_175_214 (a_run k_BT 100000) [some (aR 1), some (aB 1 2147483648 2147484671), some (aB 2 2147483648 2147484671), some (aU 0 2147483648 2147483657), some (aU 0 2147483648 (2147483648 + 20)), some (aI 0), some (aI 10), none] [] (h4 1 w))) 11 = true := by decide +kernel
set_option maxRecDepth 100000 in
theorem rg8_2 : q_all (fun w => q_1 (k_l T11 (2 + Nat.sub 1 (Nat.sub 1 w))) 35 Z_M (mb_175_214 (a_run k_BT 100000) [some (aR 1), some (aB 1 2147483648 2147484671), some (aB 2 2147483648 2147484671), some (aU 0 2147483648 2147483657), some (aU 0 2147483648 (2147483648 + 20)), some (aI 0), some (aI 10), none] [] (h4 2 w))) 11 = true := by decide +kernel
set_option maxRecDepth 100000 in
theorem rg8_3 : q_all (fun w => q_1 (k_l T11 (2 + Nat.sub 1 (Nat.sub 1 w))) 35 Z_M (mb_175_214 (a_run k_BT 100000) [some (aR 1), some (aB 1 2147483648 2147484671), some (aB 2 2147483648 2147484671), some (aU 0 2147483648 2147483657), some (aU 0 2147483648 (2147483648 + 20)), some (aI 0), some (aI 10), none] [] (h4 3 w))) 11 = true := by decide +kernel
set_option maxRecDepth 100000 in
theorem rg8_4 : q_all (fun w => q_1 (k_l T11 (2 + Nat.sub 1 (Nat.sub 1 w))) 35 Z_M (mb_175_214 (a_run k_BT 100000) [some (aR 1), some (aB 1 2147483648 2147484671), some (aB 2 2147483648 2147484671), some (aU 0 2147483648 2147483657), some (aU 0 2147483648 (2147483648 + 20)), some (aI 0), some (aI 10), none] [] (h4 4 w))) 11 = true := by decide +kernel
set_option maxRecDepth 100000 in
theorem rg8_5 : q_all (fun w => q_1 (k_l T11 (2 + Nat.sub 1 (Nat.sub 1 w))) 35 Z_M (mb_175_214 (a_run k_BT 100000) [some (aR 1), some (aB 1 2147483648 2147484671), some (aB 2 2147483648 2147484671), some (aU 0 2147483648 2147483657), some (aU 0 2147483648 (2147483648 + 20)), some (aI 0), some (aI 10), none] [] (h4 5 w))) 11 = true := by decide +kernel
set_option maxRecDepth 100000 in
theorem rg8_6 : q_all (fun w => q_1 (k_l T11 (2 + Nat.sub 1 (Nat.sub 1 w))) 35 Z_M (mb_175_214 (a_run k_BT 100000) [some (aR 1), some (aB 1 2147483648 2147484671), some (aB 2 2147483648 2147484671), some (aU 0 2147483648 2147483657), some (aU 0 2147483648 (2147483648 + 20)), some (aI 0), some (aI 10), none] [] (h4 6 w))) 11 = true := by decide +kernel
set_option maxRecDepth 100000 in
theorem rg8_7 : q_all (fun w => q_1 (k_l T11 (2 + Nat.sub 1 (Nat.sub 1 w))) 35 Z_M (mb_175_214 (a_run k_BT 100000) [some (aR 1), some (aB 1 2147483648 2147484671), some (aB 2 2147483648 2147484671), some (aU 0 2147483648 2147483657), some (aU 0 2147483648 (2147483648 + 20)), some (aI 0), some (aI 10), none] [] (h4 7 w))) 11 = true := by decide +kernel
set_option maxRecDepth 100000 in
theorem rg8_8 : q_all (fun w => q_1 (k_l T11 (2 + Nat.sub 1 (Nat.sub 1 w))) 35 Z_M (mb_175_214 (a_run k_BT 100000) [some (aR 1), some (aB 1 2147483648 2147484671), some (aB 2 2147483648 2147484671), some (aU 0 2147483648 2147483657), some (aU 0 2147483648 (2147483648 + 20)), some (aI 0), some (aI 10), none] [] (h4 8 w))) 11 = true := by decide +kernel
set_option maxRecDepth 100000 in
theorem rg8_9 : q_all (fun w => q_1 (k_l T11 (2 + Nat.sub 1 (Nat.sub 1 w))) 35 Z_M (mb_175_214 (a_run k_BT 100000) [some (aR 1), some (aB 1 2147483648 2147484671), some (aB 2 2147483648 2147484671), some (aU 0 2147483648 2147483657), some (aU 0 2147483648 (2147483648 + 20)), some (aI 0), some (aI 10), none] [] (h4 9 w))) 11 = true := by decide +kernel
set_option maxRecDepth 100000 in
theorem rg8_10 : q_all (fun w => q_1 (k_l T11 (2 + Nat.sub 1 (Nat.sub 1 w))) 35 Z_M (mb_175_214 (a_run k_BT 100000) [some (aR 1), some (aB 1 2147483648 2147484671), some (aB 2 2147483648 2147484671), some (aU 0 2147483648 2147483657), some (aU 0 2147483648 (2147483648 + 20)), some (aI 0), some (aI 10), none] [] (h4 10 w))) 11 = true := by decide +kernel
theorem rg7 (s u w x y : Nat) (h1 : 1 ≤ s) (hs : s < 10) (hu : u ≤ s) (hw : w ≤ s) (hx : x < 2) (hy : y < 2) : mb_175_214 (a_runS k_BT (k_st [(134, 40), (135, 86), (136, 165), (137, 214)]) 10000) [some (aR 1), some (aU (a_tg 1 s x) 2147483648 2147484671), some (aU (a_tg 2 s y) 2147483648 2147484671), some (aU 0 2147483648 2147483657), some (aU 0 2147483648 (2147483648 + 20)), some (aI 0), some (aI s), none] [] (h4 u w) = some (.inr (214, [some (aR 1), some (aU (a_tg 1 s x) 2147483648 2147484671), some (aU (a_tg 2 s y) 2147483648 2147484671), some (aU 0 2147483648 2147483657), some (aU 0 2147483648 (2147483648 + 20)), some (aI 0), some (aI (s + 1)), none], [], h4 (u + x) (w + y))) := by
  match s, h1, hs, hu, hw with
  | 0, h1, _, _, _ => exact absurd h1 (by omega)
  | 1, _, _, hu, hw => exact q_stop_eq (q_all_at (q_all_at (q_all_at (q_all_at rg7_1 u (by omega)) w (by omega)) x hx) y hy)
  | 2, _, _, hu, hw => exact q_stop_eq (q_all_at (q_all_at (q_all_at (q_all_at rg7_2 u (by omega)) w (by omega)) x hx) y hy)
  | 3, _, _, hu, hw => exact q_stop_eq (q_all_at (q_all_at (q_all_at (q_all_at rg7_3 u (by omega)) w (by omega)) x hx) y hy)
  | 4, _, _, hu, hw => exact q_stop_eq (q_all_at (q_all_at (q_all_at (q_all_at rg7_4 u (by omega)) w (by omega)) x hx) y hy)
  | 5, _, _, hu, hw => exact q_stop_eq (q_all_at (q_all_at (q_all_at (q_all_at rg7_5 u (by omega)) w (by omega)) x hx) y hy)
  | 6, _, _, hu, hw => exact q_stop_eq (q_all_at (q_all_at (q_all_at (q_all_at rg7_6 u (by omega)) w (by omega)) x hx) y hy)
  | 7, _, _, hu, hw => exact q_stop_eq (q_all_at (q_all_at (q_all_at (q_all_at rg7_7 u (by omega)) w (by omega)) x hx) y hy)
  | 8, _, _, hu, hw => exact q_stop_eq (q_all_at (q_all_at (q_all_at (q_all_at rg7_8 u (by omega)) w (by omega)) x hx) y hy)
  | 9, _, _, hu, hw => exact q_stop_eq (q_all_at (q_all_at (q_all_at (q_all_at rg7_9 u (by omega)) w (by omega)) x hx) y hy)
  | n + 10, _, hs, _, _ => exact absurd hs (by omega)
theorem rgD {gv : Nat → Int32} {n m : Nat} (hn : n < 1024) (hm : m < 1024) (hgn : gv (1048576 + (1 + 1)) = a_i32 n) (hgm : gv (1048576 + (2 + 1)) = a_i32 m) {r : ARes} (hz : CG gv kM_175 214 [some (aR 1), some (aB 1 2147483648 2147484671), some (aB 2 2147483648 2147484671), some (aU 0 2147483648 2147483657), some (aU 0 2147483648 (2147483648 + 20)), some (aI 0), some (aI 10), none] [] (h4 (a_pc n 10) (a_pc m 10)) r) : ∀ (k s : Nat), s + k = 10 → 1 ≤ s → CG gv kM_175 214 [some (aR 1), some (aB 1 2147483648 2147484671), some (aB 2 2147483648 2147484671), some (aU 0 2147483648 2147483657), some (aU 0 2147483648 (2147483648 + 20)), some (aI 0), some (aI s), none] [] (h4 (a_pc n s) (a_pc m s)) r
  | 0, s, h, _ => by
    have : s = 10 := by omega
    subst this
    exact hz
  | k + 1, s, h, h1 => by
    have hs : s < 10 := by omega
    refine CG_bitI (i := 1) (b := 1) s rfl (by decide) hs hn hgn ?_
    refine CG_bitI (i := 2) (b := 2) s rfl (by decide) hs hm hgm ?_
    refine CG_trans (CG_run (sb_175_214 (runS_sound (k_st_ok (by intro q hq; simp only [List.mem_cons, List.not_mem_nil, or_false] at hq; rcases hq with rfl | rfl | rfl | rfl <;> exact ⟨_, rfl⟩)) _)) (rg7 s _ _ _ _ h1 hs (a_pc_le n s) (a_pc_le m s) (bit_lt n s) (bit_lt m s))) ?_
    refine CG_un (i := 1) rfl hs (bit_lt n s) ?_
    refine CG_un (i := 2) rfl hs (bit_lt m s) ?_
    exact rgD hn hm hgn hgm hz k (s + 1) (by omega) (by omega)
theorem rgC {gv : Nat → Int32} {n m : Nat} (hn : n < 1024) (hm : m < 1024) (hgn : gv (1048576 + (1 + 1)) = a_i32 n) (hgm : gv (1048576 + (2 + 1)) = a_i32 m) (hf : a_f2 n m 10 = 1) {r : ARes} (hz : CG gv kM_175 214 [some (aR 1), some (aB 1 2147483648 2147484671), some (aB 2 2147483648 2147484671), some (aU 0 2147483648 2147483657), some (aU 0 2147483648 (2147483648 + 20)), some (aI 0), some (aI 10), none] [] (h4 (a_pc n 10) (a_pc m 10)) r) : ∀ (k s : Nat), s + k = 10 → CG gv kM_175 165 [some (aR 1), some (aB 1 2147483648 2147484671), some (aB 2 2147483648 2147484671), some (aU 0 2147483648 2147483657), some (aU 0 2147483648 (2147483648 + 20)), some (aI 0), some (aI s), none] [] (hQ (a_f2 n m s)) r
  | 0, s, h => by
    have : s = 10 := by omega
    subst this
    rw [hf]
    refine CG_bitI (i := 1) (b := 1) 0 rfl (by decide) (by decide) hn hgn ?_
    refine CG_bitI (i := 2) (b := 2) 0 rfl (by decide) (by decide) hm hgm ?_
    refine CG_trans (CG_run (sb_175_165 (runS_sound (k_st_ok (by intro q hq; simp only [List.mem_cons, List.not_mem_nil, or_false] at hq; rcases hq with rfl | rfl | rfl | rfl <;> exact ⟨_, rfl⟩)) _)) (q_stop_eq (q_all_at (q_all_at rg6 _ (bit_lt n 0)) _ (bit_lt m 0)))) ?_
    refine CG_un (i := 1) rfl (by decide) (bit_lt n 0) ?_
    refine CG_un (i := 2) rfl (by decide) (bit_lt m 0) ?_
    exact rgD hn hm hgn hgm hz 9 1 rfl (by decide)
  | k + 1, s, h => by
    have hs : s < 10 := by omega
    refine CG_bitI (i := 1) (b := 1) s rfl (by decide) hs hn hgn ?_
    refine CG_bitI (i := 2) (b := 2) s rfl (by decide) hs hm hgm ?_
    refine CG_trans (CG_run (sb_175_165 (runS_sound (k_st_ok (by intro q hq; simp only [List.mem_cons, List.not_mem_nil, or_false] at hq; rcases hq with rfl | rfl | rfl | rfl <;> exact ⟨_, rfl⟩)) _)) (q_stop_eq (q_all_at (q_all_at (q_all_at (q_all_at rg5 s hs) _ (a_f2_lt n m s)) _ (bit_lt n s)) _ (bit_lt m s)))) ?_
    refine CG_un (i := 1) rfl hs (bit_lt n s) ?_
    refine CG_un (i := 2) rfl hs (bit_lt m s) ?_
    exact rgC hn hm hgn hgm hf hz k (s + 1) (by omega)
theorem rgB {gv : Nat → Int32} {n m : Nat} (hn : n < 1024) (hm : m < 1024) (hgn : gv (1048576 + (1 + 1)) = a_i32 n) (hgm : gv (1048576 + (2 + 1)) = a_i32 m) (hf : a_f2 n m 10 = 1) {r : ARes} (hz : CG gv kM_175 214 [some (aR 1), some (aB 1 2147483648 2147484671), some (aB 2 2147483648 2147484671), some (aU 0 2147483648 2147483657), some (aU 0 2147483648 (2147483648 + 20)), some (aI 0), some (aI 10), none] [] (h4 (a_pc n 10) (a_pc m 10)) r) : ∀ (k s : Nat), s + k = 10 → CG gv kM_175 86 [some (aR 1), some (aB 1 2147483648 2147484671), some (aB 2 2147483648 2147484671), some (aU 0 2147483648 2147483657), some (aU 0 2147483648 (2147483648 + 20)), some (aI 0), some (aI s), none] [] (hM (a_f2 n m s)) r
  | 0, s, h => by
    have : s = 10 := by omega
    subst this
    rw [hf]
    refine CG_bitI (i := 1) (b := 1) 0 rfl (by decide) (by decide) hn hgn ?_
    refine CG_bitI (i := 2) (b := 2) 0 rfl (by decide) (by decide) hm hgm ?_
    refine CG_trans (CG_run (sb_175_86 (runS_sound (k_st_ok (by intro q hq; simp only [List.mem_cons, List.not_mem_nil, or_false] at hq; rcases hq with rfl | rfl | rfl | rfl <;> exact ⟨_, rfl⟩)) _)) (q_stop_eq (q_all_at (q_all_at rg4 _ (bit_lt n 0)) _ (bit_lt m 0)))) ?_
    refine CG_un (i := 1) rfl (by decide) (bit_lt n 0) ?_
    refine CG_un (i := 2) rfl (by decide) (bit_lt m 0) ?_
    exact rgC hn hm hgn hgm hf hz 9 1 rfl
  | k + 1, s, h => by
    have hs : s < 10 := by omega
    refine CG_bitI (i := 1) (b := 1) s rfl (by decide) hs hn hgn ?_
    refine CG_bitI (i := 2) (b := 2) s rfl (by decide) hs hm hgm ?_
    refine CG_trans (CG_run (sb_175_86 (runS_sound (k_st_ok (by intro q hq; simp only [List.mem_cons, List.not_mem_nil, or_false] at hq; rcases hq with rfl | rfl | rfl | rfl <;> exact ⟨_, rfl⟩)) _)) (q_stop_eq (q_all_at (q_all_at (q_all_at (q_all_at rg3 s hs) _ (a_f2_lt n m s)) _ (bit_lt n s)) _ (bit_lt m s)))) ?_
    refine CG_un (i := 1) rfl hs (bit_lt n s) ?_
    refine CG_un (i := 2) rfl hs (bit_lt m s) ?_
    exact rgB hn hm hgn hgm hf hz k (s + 1) (by omega)
theorem rgA {gv : Nat → Int32} {n m : Nat} (hn : n < 1024) (hm : m < 1024) (hgn : gv (1048576 + (1 + 1)) = a_i32 n) (hgm : gv (1048576 + (2 + 1)) = a_i32 m) (hf : a_f2 n m 10 = 1) {r : ARes} (hz : CG gv kM_175 214 [some (aR 1), some (aB 1 2147483648 2147484671), some (aB 2 2147483648 2147484671), some (aU 0 2147483648 2147483657), some (aU 0 2147483648 (2147483648 + 20)), some (aI 0), some (aI 10), none] [] (h4 (a_pc n 10) (a_pc m 10)) r) : ∀ (k s : Nat), s + k = 10 → CG gv kM_175 40 [some (aR 1), some (aB 1 2147483648 2147484671), some (aB 2 2147483648 2147484671), some (aU 0 2147483648 2147483657), some (aU 0 2147483648 (2147483648 + 2 * s)), some (aI 0), some (aI s), none] [] k_HM r
  | 0, s, h => by
    have : s = 10 := by omega
    subst this
    refine CG_bitI (i := 1) (b := 1) 0 rfl (by decide) (by decide) hn hgn ?_
    refine CG_bitI (i := 2) (b := 2) 0 rfl (by decide) (by decide) hm hgm ?_
    refine CG_trans (CG_run (sb_175_40 (runS_sound (k_st_ok (by intro q hq; simp only [List.mem_cons, List.not_mem_nil, or_false] at hq; rcases hq with rfl | rfl | rfl | rfl <;> exact ⟨_, rfl⟩)) _)) (q_stop_eq (q_all_at (q_all_at rg2 _ (bit_lt n 0)) _ (bit_lt m 0)))) ?_
    refine CG_un (i := 1) rfl (by decide) (bit_lt n 0) ?_
    refine CG_un (i := 2) rfl (by decide) (bit_lt m 0) ?_
    exact rgB hn hm hgn hgm hf hz 9 1 rfl
  | k + 1, s, h => by
    have hs : s < 10 := by omega
    refine CG_bitI (i := 1) (b := 1) s rfl (by decide) hs hn hgn ?_
    refine CG_bitI (i := 2) (b := 2) s rfl (by decide) hs hm hgm ?_
    refine CG_trans (CG_run (sb_175_40 (runS_sound (k_st_ok (by intro q hq; simp only [List.mem_cons, List.not_mem_nil, or_false] at hq; rcases hq with rfl | rfl | rfl | rfl <;> exact ⟨_, rfl⟩)) _)) (q_stop_eq (q_all_at (q_all_at (q_all_at rg1 s hs) _ (bit_lt n s)) _ (bit_lt m s)))) ?_
    refine CG_drop 7 ?_
    refine CG_weak (i := 4) (b := aU 0 2147483648 (2147483648 + 2 * (s + 1))) rfl (fun _ _ hv => vU_wide (by omega) (by have := bit_lt n s; have := bit_lt m s; omega) hv) ?_
    refine CG_un (i := 1) rfl hs (bit_lt n s) ?_
    refine CG_un (i := 2) rfl hs (bit_lt m s) ?_
    exact rgA hn hm hgn hgm hf hz k (s + 1) (by omega)
theorem vI_U {gv : Nat → Int32} {ad : List Nat} {n k : Nat} {v : Value} (hn : n ≤ k) (hk : k ≤ 1000) (h : vR gv ad (aI n) v) : vR gv ad (aU 0 2147483648 (2147483648 + k)) v := by
  obtain ⟨h1, rfl⟩ := h
  have h := a_bs_val (a_i32 n)
  rw [t32 h1, if_pos (by omega)] at h
  exact ⟨_, rfl, by omega, by omega, gR_0⟩
theorem rgE {gv : Nat → Int32} {n m : Nat} (hn : n < 1024) (hm : m < 1024) (hgn : gv (1048576 + (1 + 1)) = a_i32 n) (hgm : gv (1048576 + (2 + 1)) = a_i32 m) (hf : a_f2 n m 10 = 1) {r : ARes} (hz : CG gv kM_175 214 [some (aR 1), some (aB 1 2147483648 2147484671), some (aB 2 2147483648 2147484671), some (aU 0 2147483648 2147483657), some (aU 0 2147483648 (2147483648 + 20)), some (aI 0), some (aI 10), none] [] (h4 (a_pc n 10) (a_pc m 10)) r) : CG gv kM_175 0 [some (aR 1), some (aB 1 2147483648 2147484671), some (aB 2 2147483648 2147484671), some (aU 0 2147483648 2147483657), none, none, none, none] [] k_HM r := by
    refine CG_bitI (i := 1) (b := 1) 0 rfl (by decide) (by decide) hn hgn ?_
    refine CG_bitI (i := 2) (b := 2) 0 rfl (by decide) (by decide) hm hgm ?_
    refine CG_trans (CG_run (sb_175_0 (runS_sound (k_st_ok (by intro q hq; simp only [List.mem_cons, List.not_mem_nil, or_false] at hq; rcases hq with rfl | rfl | rfl | rfl <;> exact ⟨_, rfl⟩)) _)) (q_stop_eq (q_all_at (q_all_at rg0 _ (bit_lt n 0)) _ (bit_lt m 0)))) ?_
    refine CG_drop 7 ?_
    refine CG_weak (i := 4) (b := aU 0 2147483648 (2147483648 + 2 * 1)) rfl (fun _ _ hv => vI_U (by have := bit_lt n 0; have := bit_lt m 0; omega) (by decide) hv) ?_
    refine CG_un (i := 1) rfl (by decide) (bit_lt n 0) ?_
    refine CG_un (i := 2) rfl (by decide) (bit_lt m 0) ?_
    exact rgA hn hm hgn hgm hf hz 9 1 rfl
theorem rg8 (u w : Nat) (hu : u < 11) (hw : w < 11) : q_1 (k_l T11 (2 * Nat.sub 1 (Nat.sub 1 u) + Nat.sub 1 (Nat.sub 1 w))) 35 Z_M (mb_175_214 (a_run k_BT 100000) [some (aR 1), some (aB 1 2147483648 2147484671), some (aB 2 2147483648 2147484671), some (aU 0 2147483648 2147483657), some (aU 0 2147483648 (2147483648 + 20)), some (aI 0), some (aI 10), none] [] (h4 u w)) = true := by
  match u, hu with
  | 0, _ => exact q_all_at rg8_0 w hw
  | 1, _ => exact q_all_at rg8_1 w hw
  | 2, _ => exact q_all_at rg8_2 w hw
  | 3, _ => exact q_all_at rg8_3 w hw
  | 4, _ => exact q_all_at rg8_4 w hw
  | 5, _ => exact q_all_at rg8_5 w hw
  | 6, _ => exact q_all_at rg8_6 w hw
  | 7, _ => exact q_all_at rg8_7 w hw
  | 8, _ => exact q_all_at rg8_8 w hw
  | 9, _ => exact q_all_at rg8_9 w hw
  | 10, _ => exact q_all_at rg8_10 w hw
  | n + 11, h => exact absurd h (by omega)
