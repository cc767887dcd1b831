theorem zpT606 : zcheck zpZ zpRS zpMT [] zpC606 zpP12 1 zpA606 [] 3000 = true := by decide +kernel
theorem zpT607 : zcheck zpZ zpRS zpMT [zpC603, zpC605, zpC606] zpC607 zpP12 1 zpA607 [] 3000 = true := by decide +kernel
theorem zpT608 : zcheck zpZ zpRS zpMT [zpC518] zpC608 zpP12 2 zpA608 [] 3000 = true := by decide +kernel
theorem zpT609 : zcheck zpZ zpRS zpMT [zpC603, zpC606, zpC607, zpC608] zpC609 zpP12 1 zpA609 [] 3000 = true := by decide +kernel
theorem zpT610 : zcheck zpZ zpRS zpMT [zpC557, zpC608] zpC610 zpP12 1 zpA610 [] 3000 = true := by decide +kernel
theorem zpT611 : zcheck zpZ zpRS zpMT [zpC552] zpC611 zpP12 2 zpA611 [] 3000 = true := by decide +kernel
theorem zpT612 : zcheck zpZ zpRS zpMT [zpC607, zpC611] zpC612 zpP12 1 zpA612 [] 3000 = true := by decide +kernel
theorem zpT613 : zcheck zpZ zpRS zpMT [zpC607] zpC613 zpP12 0 zpA613 [] 3000 = true := by decide +kernel
theorem zpT614 : zcheck zpZ zpRS zpMT [] zpC614 zpP12 2 zpA614 [] 3000 = true := by decide +kernel
theorem zpT615 : zcheck zpZ zpRS zpMT [zpC606, zpC614] zpC615 zpP12 2 zpA615 [] 3000 = true := by decide +kernel
theorem zpT616 : zcheck zpZ zpRS zpMT [zpC558, zpC608, zpC613, zpC615] zpC616 zpP12 1 zpA616 [] 3000 = true := by decide +kernel
theorem zpT617 : zcheck zpZ zpRS zpMT [zpC558, zpC611, zpC613, zpC615] zpC617 zpP12 1 zpA617 [] 3000 = true := by decide +kernel
theorem zpT618 : zcheck zpZ zpRS zpMT [] zpC618 zpP12 2 zpA618 [] 3000 = true := by decide +kernel
theorem zpT619 : zcheck zpZ zpRS zpMT [zpC608, zpC618] zpC619 zpP12 1 zpA619 [] 3000 = true := by decide +kernel
theorem zpT620 : zcheck zpZ zpRS zpMT [zpC614] zpC620 zpP12 2 zpA620 [] 3000 = true := by decide +kernel
theorem zpT621 : zcheck zpZ zpRS zpMT [zpC558, zpC606, zpC611, zpC613, zpC620] zpC621 zpP12 1 zpA621 [] 3000 = true := by decide +kernel
theorem zpT622 : zcheck zpZ zpRS zpMT [zpC608, zpC613, zpC620] zpC622 zpP12 3 zpA622 [] 3000 = true := by decide +kernel
theorem zpT623 : zcheck zpZ zpRS zpMT [] zpC623 zpP12 0 zpA623 [] 3000 = true := by decide +kernel
theorem zpT624 : zcheck zpZ zpRS zpMT [zpC606, zpC614, zpC623] zpC624 zpP12 0 zpA624 [] 3000 = true := by decide +kernel
theorem zpT625 : zcheck zpZ zpRS zpMT [zpC606, zpC614, zpC624] zpC625 zpP12 0 zpA625 [] 3000 = true := by decide +kernel
theorem zpT626 : zcheck zpZ zpRS zpMT [zpC606, zpC614, zpC625] zpC626 zpP12 0 zpA626 [] 3000 = true := by decide +kernel
theorem zpT627 : zcheck zpZ zpRS zpMT [zpC606, zpC614, zpC626] zpC627 zpP12 0 zpA627 [] 3000 = true := by decide +kernel
theorem zpT628 : zcheck zpZ zpRS zpMT [zpC606, zpC614, zpC627] zpC628 zpP12 0 zpA628 [] 3000 = true := by decide +kernel
theorem zpT629 : zcheck zpZ zpRS zpMT [zpC606, zpC628] zpC629 zpP12 0 zpA629 [] 3000 = true := by decide +kernel
theorem zpT630 : zcheck zpZ zpRS zpMT [zpC613, zpC629] zpC630 zpP12 1 zpA630 [] 3000 = true := by decide +kernel
theorem zpT631 : zcheck zpZ zpRS zpMT [] zpC631 zpP12 2 zpA631 [] 3000 = true := by decide +kernel
theorem zpT632 : zcheck zpZ zpRS zpMT [zpC578, zpC581, zpC631] zpC632 zpP12 1 zpA632 [] 3000 = true := by decide +kernel
theorem zpT633 : zcheck zpZ zpRS zpMT [] zpC633 zpP12 1 zpA633 [] 3000 = true := by decide +kernel
theorem zpT634 : zcheck zpZ zpRS zpMT [zpC569, zpC570, zpC633] zpC634 zpP12 1 zpA634 [] 3000 = true := by decide +kernel
theorem zpT635 : zcheck zpZ zpRS zpMT [zpC569, zpC634] zpC635 zpP12 1 zpA635 [] 3000 = true := by decide +kernel
theorem zpT636 : zcheck zpZ zpRS zpMT [zpC569, zpC635] zpC636 zpP12 1 zpA636 [] 3000 = true := by decide +kernel
theorem zpT637 : zcheck zpZ zpRS zpMT [zpC569, zpC636] zpC637 zpP12 1 zpA637 [] 3000 = true := by decide +kernel
theorem zpT638 : zcheck zpZ zpRS zpMT [zpC569] zpC638 zpP12 2 zpA638 [] 3000 = true := by decide +kernel
theorem zpT639 : zcheck zpZ zpRS zpMT [] zpC639 zpP12 2 zpA639 [] 3000 = true := by decide +kernel
theorem zpT640 : zcheck zpZ zpRS zpMT [zpC637, zpC638, zpC639] zpC640 zpP12 1 zpA640 [] 3000 = true := by decide +kernel
theorem zpT641 : zcheck zpZ zpRS zpMT [zpC569] zpC641 zpP12 2 zpA641 [] 3000 = true := by decide +kernel
theorem zpT642 : zcheck zpZ zpRS zpMT [] zpC642 zpP12 2 zpA642 [] 3000 = true := by decide +kernel
theorem zpT643 : zcheck zpZ zpRS zpMT [zpC640, zpC641, zpC642] zpC643 zpP12 1 zpA643 [] 3000 = true := by decide +kernel
theorem zpT644 : zcheck zpZ zpRS zpMT [zpC569] zpC644 zpP12 2 zpA644 [] 3000 = true := by decide +kernel
theorem zpT645 : zcheck zpZ zpRS zpMT [] zpC645 zpP12 2 zpA645 [] 3000 = true := by decide +kernel
theorem zpT646e : zrun zpZ zpRS zpP12 zpMT [zpC567, zpC569, zpC570, zpC633, zpC634, zpC643, zpC644, zpC645] (zpC646.2.2.1.2.1.length, zpC646.2.2.2.1, zpC646.2.2.2.2, zpC646.2.1, 1) (zpMT zpC646.1).2.1 zpA646 [] none 3000 0 zpC646.2.2.1.2 = true := by decide +kernel
theorem zpT646h0 : zhead zpZ zpRS zpMT [zpC567, zpC569, zpC570, zpC633, zpC634, zpC643, zpC644, zpC645] zpC646 zpP12 1 zpA646 [] 3000 zpA646h0 = true := by decide +kernel
theorem zpT646 : zcheck zpZ zpRS zpMT [zpC567, zpC569, zpC570, zpC633, zpC634, zpC643, zpC644, zpC645] zpC646 zpP12 1 zpA646 [] 3000 = true := zcheck_of zpT646e (zall_cons zpT646h0 (zall_nil)) (by decide +kernel)
theorem zpT647 : zcheck zpZ zpRS zpMT [zpC569, zpC646] zpC647 zpP12 1 zpA647 [] 3000 = true := by decide +kernel
